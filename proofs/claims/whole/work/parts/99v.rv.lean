/-! THE READER: plain tests -/
def nots (dn : Bool) (r : PR) : PR := if dn = true then bd r (fun p l G => (p, l, some (notS G))) else r
theorem notS_notS (G : SF) : notS (notS G) = G := by
  funext w
  unfold notS
  cases G w with
  | none => rfl
  | some a => show some (1 - (1 - a)) = some a; congr 1; omega
theorem nots_st (dn : Bool) (r : PR) : nots dn (bd r (fun p l G => (p, l, some (notS G)))) = nots (!dn) r := by
  cases dn with
  | false => rfl
  | true =>
    have e1 : nots (!true) r = r := rfl
    rw [e1]
    obtain ⟨p, l, g⟩ := r
    cases g with
    | none => rfl
    | some G =>
      show (p, l, some (notS (notS G))) = (p, l, some G)
      rw [notS_notS]
theorem nots_n {dn : Bool} {r : PR} (h : r.2.2 = none) : nots dn r = r := by unfold nots; split; exact bd_n h; rfl
def bno (dn : Bool) (G : SF) : SF := if dn = true then notS G else G
theorem nots_s {dn : Bool} {p l : Nat} {G : SF} : nots dn (p, l, some G) = (p, l, some (bno dn G)) := by cases dn <;> rfl
def CLT (E : EnT) (S : ST) (o : Nat) (t : Nat → Nat) (n m : Nat) (od : Bool) (lv f : Nat) : Prop := ∀ (d k l : Nat) (c : CT) (I : IT) (L : LT) (F : SF) (s : Nat), d ≤ 8 → rkn (3 + lv) + 8 * (n - pk t n k) ≤ f → RS I o t n m od k l c → c.2.2 ≤ k + s → s ≤ 47 → l ≤ 50 → C E kX5_readTest (3 * (8 - d) + rkn (3 + lv)) 0 0 [.ref o, .int (nI lv), .int (nI d)] S I L (PO o t n m od S L I k l c (3 + lv) (ps t n od f (3 + lv) d (pk t n k) l F))
def CLN (E : EnT) (S : ST) (o : Nat) (t : Nat → Nat) (n m : Nat) (od : Bool) (f : Nat) : Prop := ∀ (d k l : Nat) (c : CT) (I : IT) (L : LT) (F : SF) (s k0 : Nat) (I0 : IT) (dn : Bool) (N : Nat), d ≤ 8 → rkn 5 + 8 * (n - pk t n k) ≤ f → RS I o t n m od k l c → c.2.2 ≤ k0 + s → s ≤ 47 → l ≤ 50 → N ≤ k → k0 ≤ k → (dn = true → k0 < k) → FrX5 o I I0 → V E kX5_readPlain (rmOf (3 * (8 - d) + 4) 0 0) (QM E (PO o t n m od S L I0 k0 l c 5 (nots dn (ps t n od f 5 d (pk t n k) l F))) 0 0) 0 0 S I L 4 [(0, .ref o), (1, .int (nI d)), (2, .int (b2i dn)), (3, .int (nI N))] []
section RV
variable {E : EnT} {S : ST} {I : IT} {L : LT} {o n m k l d f s : Nat} {t : Nat → Nat} {od : Bool} {c : CT} {F : SF}
theorem SgR.no {s0 l0 l : Nat} {c0 c : CT} {F : SF} (h : SgR s0 c0 c l0 l F) (hT : TFo F) : SgR s0 c0 (pc1 c 28 0) l0 l (notS F) := by
  obtain ⟨h1, h2, a, ha, hF⟩ := h
  have hs := hF.1
  have e0 : (pc1 c 28 0).1 c.2.2 = 28 := if_pos rfl
  have e1 : ∀ j, j < c.2.2 → (pc1 c 28 0).1 j = c.1 j ∧ (pc1 c 28 0).2.1 j = c.2.1 j := fun j hj => ⟨if_neg (by omega), if_neg (by omega)⟩
  refine ⟨fun j hj => ?_, fun j j1 j2 => ?_, a, by omega, ?_⟩
  · have q1 := e1 j (by omega); have q3 := h1 j hj
    exact ⟨q1.1.trans q3.1, q1.2.trans q3.2⟩
  · have j3 : j < c.2.2 + 1 := j2
    show _ ∧ (_ → _ ∧ _ ≤ c.2.2 + 1)
    by_cases q : j = c.2.2
    · rw [q, e0]; exact ⟨by omega, fun z => by omega⟩
    · have q1 := e1 j (by omega)
      rw [q1.1, q1.2]
      have q5 := h2 j j1 (by omega)
      exact ⟨q5.1, fun z => by have := q5.2 z; omega⟩
  · exact Rn.no (hF.cg fun j j1 j2 => e1 j j2) hT e0
theorem rpl_fin {k0 l0 k' l' p' : Nat} {c0 c' : CT} {I0 I' : IT} {G : SF} {dn : Bool} {v3 : Int32} {D : Nat} (hD : 1 ≤ D) (h5 : Lay5 E S o) (hR : RS I' o t n m od k' l' c') (hp : pk t n k' = p') (hc : c0.2.2 ≤ k0 + s) (hs : s ≤ 47) (hk : k0 < k') (hcc : c'.2.2 + k0 + (if dn = true then 1 else 0) ≤ c0.2.2 + k') (hsg : SgR c0.2.2 c0 c' l0 l' G) (hT : TFo G) (hF : FrX5 o I' I0) : V E kX5_readPlain (rmOf D 0 0) (QM E (PO o t n m od S L I0 k0 l0 c0 5 (nots dn (p', l', some G))) 0 0) 0 0 S I' L 140 [(0, .ref o), (1, .int (nI d)), (2, .int (b2i dn)), (3, .int v3)] [] := by
  have hkm := hR.2.1
  have h400 := hR.1.2.2.1
  rw [nots_s]
  cases dn with
  | false =>
    rw [if_neg (by decide)] at hcc
    refine V_iload_n (pc := 140) dX5_readPlain_140 rfl ?_
    refine V_if_eqB (pc := 141) (tgt := 154) dX5_readPlain_141 (by decide) (fun c141 => ?_) (fun n141 => absurd n141 (by decide))
    refine V_iconst (pc := 154) (v := nI 1) dX5_readPlain_154 (by decide) ?_
    refine V_goto (pc := 155) (tgt := 159) dX5_readPlain_155 (by decide) ?_
    refine V_zretB (pc := 159) (p := true) dX5_readPlain_159 rfl rfl (by first | decide | omega) (by first | decide | omega) ?_
    exact ⟨rfl, rfl, hF, Or.inr ⟨G, rfl, rfl, k', c', hR, hp, hk, hcc, hsg, fun _ => hT⟩⟩
  | true =>
    rw [if_pos rfl] at hcc
    have hRp := hR.put (a := 11) (x := 28) (b := 0) rfl (by unfold opC; omega) (by omega) (fun z => by omega)
    refine V_iload_n (pc := 140) dX5_readPlain_140 rfl ?_
    refine V_if_eqB (pc := 141) (tgt := 154) dX5_readPlain_141 (by decide) (fun c141 => absurd c141 (by decide)) (fun n141 => ?_)
    refine V_aload_n (pc := 144) dX5_readPlain_144 rfl ?_
    refine V_bipush (pc := 145) (v := nI 11) dX5_readPlain_145 (by decide) ?_
    refine V_iconst (pc := 147) (v := nI 0) dX5_readPlain_147 (by decide) ?_
    refine V_callVd (pc := 148) (ci := 5) (c_X5_put (a := 11) h5 hR (by omega)) dX5_readPlain_148 mlX5_131 mkX5_put rfl rfl h5.o ⟨by decide, rfl⟩ (rmS (by omega) (Nat.le_of_ble_eq_true rfl)) (Nat.le_of_ble_eq_true rfl) ⟨Nat.le_of_ble_eq_true rfl, Nat.le_of_ble_eq_true rfl⟩ ?_
    refine V_if_eqB (pc := 151) (tgt := 158) dX5_readPlain_151 (by decide) (fun c151 => absurd c151 (by decide)) (fun n151 => ?_)
    refine V_iconst (pc := 154) (v := nI 1) dX5_readPlain_154 (by decide) ?_
    refine V_goto (pc := 155) (tgt := 159) dX5_readPlain_155 (by decide) ?_
    refine V_zretB (pc := 159) (p := true) dX5_readPlain_159 rfl rfl (by first | decide | omega) (by first | decide | omega) ?_
    refine ⟨rfl, rfl, hF.pw, Or.inr ⟨notS G, rfl, rfl, k', _, hRp, hp, hk, ?_, hsg.no hT, fun _ => hT.no⟩⟩
    show c'.2.2 + 1 + k0 ≤ _; omega
theorem cln_s (h5 : Lay5 E S o) (hb : ∀ i, i < n → t i < 256) (hS : CLS E S o t n m od 0 f) (hT : CLT E S o t n m od 0 f) (hN : CLN E S o t n m od f) : CLN E S o t n m od (f + 1) := by
  intro d k l c I L F s k0 I0 dn N hd hf hR hc hs hl hNk hk0 hdn hF
  rw [show rkn 5 = 4 from rfl] at hf
  have h400 := hR.1.2.2.1
  have hkm := hR.2.1
  have h4 := hR.2.2.1
  have htk := hR.tk
  have hpn := hR.1.pn hkm
  have hlt := tc_lt (n := n) hb hpn
  rw [ps_5]
  by_cases h3 : tc t n (pk t n k) = 3
  · rw [if_pos h3, nots_st]
    have hk := hR.lt (by omega)
    have hpp := pkm_lt hR.1 hk
    have key := fun N hN' => hN d (k + 1) l c (up2 I o 4 (nI (k + 1))) L F s k0 I0 (!dn) N hd (by rw [show rkn 5 = 4 from rfl]; omega) (hR.go hk) hc hs hl hN' (by omega) (fun _ => by omega) (hF.u (by omega))
    rw [pk_s] at key
    cases dn with
    | false =>
      refine V_iload_n (pc := 4) dX5_readPlain_4 rfl ?_
      refine V_sipush (pc := 5) (v := nI 400) dX5_readPlain_5 (by decide) ?_
      refine V_icmp_gtN (pc := 8) (tgt := 44) dX5_readPlain_8 (by decide) (by omega) (by omega) (fun c8 => absurd c8 (by omega)) (fun n8 => ?_)
      refine V_aload_n (pc := 11) dX5_readPlain_11 rfl ?_
      refine V_getR (pc := 12) 5 1 dX5_readPlain_12 flX5_17 (by decide) h5.o h5.R1 ?_
      refine V_aload_n (pc := 15) dX5_readPlain_15 rfl ?_
      refine V_getIE (pc := 16) 5 4 dX5_readPlain_16 flX5_27 (by decide) h5.o (h4) ?_
      refine V_ialoadE (pc := 19) dX5_readPlain_19 h5.A1 (by first | decide | omega) (by omega) (htk) ?_
      refine V_iconst (pc := 20) (v := nI 3) dX5_readPlain_20 (by decide) ?_
      refine V_icmp_neN (pc := 21) (tgt := 44) dX5_readPlain_21 (by decide) (by omega) (by omega) (fun c21 => absurd c21 (by omega)) (fun n21 => ?_)
      refine V_iload_n (pc := 24) dX5_readPlain_24 rfl ?_
      refine V_if_neB (pc := 25) (tgt := 32) dX5_readPlain_25 (by decide) (fun c25 => absurd c25 (by decide)) (fun n25 => ?_)
      refine V_iconst (pc := 28) (v := nI 1) dX5_readPlain_28 (by decide) ?_
      refine V_goto (pc := 29) (tgt := 33) dX5_readPlain_29 (by decide) ?_
      refine V_istore_n (pc := 33) (ls' := [(0, _), (1, _), (2, _), (3, _)]) dX5_readPlain_33 (by decide) rfl ?_
      refine V_aload_n (pc := 34) dX5_readPlain_34 rfl ?_
      refine V_callVn (pc := 35) (ci := 5) (c_X5_goOn h5 hR hk) dX5_readPlain_35 mlX5_78 mkX5_goOn rfl rfl h5.o ⟨by decide, rfl⟩ (rmS (by omega) (Nat.le_of_ble_eq_true rfl)) (Nat.le_of_ble_eq_true rfl) ⟨Nat.le_of_ble_eq_true rfl, Nat.le_of_ble_eq_true rfl⟩ ?_
      refine V_iinc1 (pc := 38) (ls' := [(0, _), (1, _), (2, _), (3, _)]) dX5_readPlain_38 rfl (by decide) rfl ?_
      refine V_goto (pc := 41) (tgt := 4) dX5_readPlain_41 (by decide) ?_
      exact key (N + 1) (by omega)
    | true =>
      refine V_iload_n (pc := 4) dX5_readPlain_4 rfl ?_
      refine V_sipush (pc := 5) (v := nI 400) dX5_readPlain_5 (by decide) ?_
      refine V_icmp_gtN (pc := 8) (tgt := 44) dX5_readPlain_8 (by decide) (by omega) (by omega) (fun c8 => absurd c8 (by omega)) (fun n8 => ?_)
      refine V_aload_n (pc := 11) dX5_readPlain_11 rfl ?_
      refine V_getR (pc := 12) 5 1 dX5_readPlain_12 flX5_17 (by decide) h5.o h5.R1 ?_
      refine V_aload_n (pc := 15) dX5_readPlain_15 rfl ?_
      refine V_getIE (pc := 16) 5 4 dX5_readPlain_16 flX5_27 (by decide) h5.o (h4) ?_
      refine V_ialoadE (pc := 19) dX5_readPlain_19 h5.A1 (by first | decide | omega) (by omega) (htk) ?_
      refine V_iconst (pc := 20) (v := nI 3) dX5_readPlain_20 (by decide) ?_
      refine V_icmp_neN (pc := 21) (tgt := 44) dX5_readPlain_21 (by decide) (by omega) (by omega) (fun c21 => absurd c21 (by omega)) (fun n21 => ?_)
      refine V_iload_n (pc := 24) dX5_readPlain_24 rfl ?_
      refine V_if_neB (pc := 25) (tgt := 32) dX5_readPlain_25 (by decide) (fun c25 => ?_) (fun n25 => absurd n25 (by decide))
      refine V_iconst (pc := 32) (v := nI 0) dX5_readPlain_32 (by decide) ?_
      refine V_istore_n (pc := 33) (ls' := [(0, _), (1, _), (2, _), (3, _)]) dX5_readPlain_33 (by decide) rfl ?_
      refine V_aload_n (pc := 34) dX5_readPlain_34 rfl ?_
      refine V_callVn (pc := 35) (ci := 5) (c_X5_goOn h5 hR hk) dX5_readPlain_35 mlX5_78 mkX5_goOn rfl rfl h5.o ⟨by decide, rfl⟩ (rmS (by omega) (Nat.le_of_ble_eq_true rfl)) (Nat.le_of_ble_eq_true rfl) ⟨Nat.le_of_ble_eq_true rfl, Nat.le_of_ble_eq_true rfl⟩ ?_
      refine V_iinc1 (pc := 38) (ls' := [(0, _), (1, _), (2, _), (3, _)]) dX5_readPlain_38 rfl (by decide) rfl ?_
      refine V_goto (pc := 41) (tgt := 4) dX5_readPlain_41 (by decide) ?_
      exact key (N + 1) (by omega)
  rw [if_neg h3]
  have hdn' : (if dn = true then 1 else 0) + k0 ≤ k := by cases dn with | true => have := hdn rfl; rw [if_pos rfl]; omega | false => rw [if_neg (by decide)]; omega
  refine (show ∀ P : Prop, P → P from fun _ h => h) _ ?_
  by_cases h140 : tc t n (pk t n k) = 140
  · rw [if_pos h140]
    have hk := hR.lt (by omega)
    have hpp := pkm_lt hR.1 hk
    by_cases h8 : 8 ≤ d
    · rw [if_pos h8, nots_n rfl]
      refine V_iload_n (pc := 4) dX5_readPlain_4 rfl ?_
      refine V_sipush (pc := 5) (v := nI 400) dX5_readPlain_5 (by decide) ?_
      refine V_icmp_gtN (pc := 8) (tgt := 44) dX5_readPlain_8 (by decide) (by omega) (by omega) (fun c8 => absurd c8 (by omega)) (fun n8 => ?_)
      refine V_aload_n (pc := 11) dX5_readPlain_11 rfl ?_
      refine V_getR (pc := 12) 5 1 dX5_readPlain_12 flX5_17 (by decide) h5.o h5.R1 ?_
      refine V_aload_n (pc := 15) dX5_readPlain_15 rfl ?_
      refine V_getIE (pc := 16) 5 4 dX5_readPlain_16 flX5_27 (by decide) h5.o (h4) ?_
      refine V_ialoadE (pc := 19) dX5_readPlain_19 h5.A1 (by first | decide | omega) (by omega) (htk) ?_
      refine V_iconst (pc := 20) (v := nI 3) dX5_readPlain_20 (by decide) ?_
      refine V_icmp_neN (pc := 21) (tgt := 44) dX5_readPlain_21 (by decide) (by omega) (by omega) (fun c21 => ?_) (fun n21 => absurd n21 (by omega))
      refine V_aload_n (pc := 44) dX5_readPlain_44 rfl ?_
      refine V_bipush (pc := 45) (v := nI 40) dX5_readPlain_45 (by decide) ?_
      refine V_callVd (pc := 47) (ci := 5) (c_X5_isSign (x := 40) h5 hR hb (by omega)) dX5_readPlain_47 mlX5_74 mkX5_isSign rfl rfl h5.o ⟨by decide, rfl⟩ (rmS (by omega) (Nat.le_of_ble_eq_true rfl)) (Nat.le_of_ble_eq_true rfl) ⟨Nat.le_of_ble_eq_true rfl, Nat.le_of_ble_eq_true rfl⟩ ?_
      refine V_if_eqB (pc := 50) (tgt := 94) dX5_readPlain_50 (by decide) (fun c50 => absurd c50 (by simp [h140])) (fun n50 => ?_)
      refine V_iload_n (pc := 53) dX5_readPlain_53 rfl ?_
      refine V_bipush (pc := 54) (v := nI 8) dX5_readPlain_54 (by decide) ?_
      refine V_icmp_ltN (pc := 56) (tgt := 61) dX5_readPlain_56 (by decide) (by omega) (by omega) (fun c56 => absurd c56 (by omega)) (fun n56 => ?_)
      refine V_iconst (pc := 59) (v := nI 0) dX5_readPlain_59 (by decide) ?_
      refine V_zretB (pc := 60) (p := false) dX5_readPlain_60 rfl rfl (by first | decide | omega) (by first | decide | omega) ?_
      exact ⟨rfl, rfl, hF, Or.inl ⟨rfl, rfl, k, hR.2.1, hR.2.2.1, rfl⟩⟩
    · rw [if_neg h8]
      have hC := hT (d + 1) (k + 1) l c (up2 I o 4 (nI (k + 1))) L F s (by omega) (by rw [show rkn (3 + 0) = 6 from rfl]; omega) (hR.go hk) (by omega) hs hl
      rw [pk_s] at hC
      rw [show 3 + 0 = 3 from rfl] at hC
      generalize ps t n od f 3 (d + 1) (nxt t n (pk t n k)) l F = r1 at hC ⊢
      refine V_iload_n (pc := 4) dX5_readPlain_4 rfl ?_
      refine V_sipush (pc := 5) (v := nI 400) dX5_readPlain_5 (by decide) ?_
      refine V_icmp_gtN (pc := 8) (tgt := 44) dX5_readPlain_8 (by decide) (by omega) (by omega) (fun c8 => absurd c8 (by omega)) (fun n8 => ?_)
      refine V_aload_n (pc := 11) dX5_readPlain_11 rfl ?_
      refine V_getR (pc := 12) 5 1 dX5_readPlain_12 flX5_17 (by decide) h5.o h5.R1 ?_
      refine V_aload_n (pc := 15) dX5_readPlain_15 rfl ?_
      refine V_getIE (pc := 16) 5 4 dX5_readPlain_16 flX5_27 (by decide) h5.o (h4) ?_
      refine V_ialoadE (pc := 19) dX5_readPlain_19 h5.A1 (by first | decide | omega) (by omega) (htk) ?_
      refine V_iconst (pc := 20) (v := nI 3) dX5_readPlain_20 (by decide) ?_
      refine V_icmp_neN (pc := 21) (tgt := 44) dX5_readPlain_21 (by decide) (by omega) (by omega) (fun c21 => ?_) (fun n21 => absurd n21 (by omega))
      refine V_aload_n (pc := 44) dX5_readPlain_44 rfl ?_
      refine V_bipush (pc := 45) (v := nI 40) dX5_readPlain_45 (by decide) ?_
      refine V_callVd (pc := 47) (ci := 5) (c_X5_isSign (x := 40) h5 hR hb (by omega)) dX5_readPlain_47 mlX5_74 mkX5_isSign rfl rfl h5.o ⟨by decide, rfl⟩ (rmS (by first | omega | (show _ + 6 + 1 ≤ _; omega)) (Nat.le_of_ble_eq_true rfl)) (Nat.le_of_ble_eq_true rfl) ⟨Nat.le_of_ble_eq_true rfl, Nat.le_of_ble_eq_true rfl⟩ ?_
      refine V_if_eqB (pc := 50) (tgt := 94) dX5_readPlain_50 (by decide) (fun c50 => absurd c50 (by simp [h140])) (fun n50 => ?_)
      refine V_iload_n (pc := 53) dX5_readPlain_53 rfl ?_
      refine V_bipush (pc := 54) (v := nI 8) dX5_readPlain_54 (by decide) ?_
      refine V_icmp_ltN (pc := 56) (tgt := 61) dX5_readPlain_56 (by decide) (by omega) (by omega) (fun c56 => ?_) (fun n56 => absurd n56 (by omega))
      refine V_aload_n (pc := 61) dX5_readPlain_61 rfl ?_
      refine V_callVn (pc := 62) (ci := 5) (c_X5_goOn h5 hR hk) dX5_readPlain_62 mlX5_78 mkX5_goOn rfl rfl h5.o ⟨by decide, rfl⟩ (rmS (by first | omega | (show _ + 6 + 1 ≤ _; omega)) (Nat.le_of_ble_eq_true rfl)) (Nat.le_of_ble_eq_true rfl) ⟨Nat.le_of_ble_eq_true rfl, Nat.le_of_ble_eq_true rfl⟩ ?_
      refine V_aload_n (pc := 65) dX5_readPlain_65 rfl ?_
      refine V_iconst (pc := 66) (v := nI 0) dX5_readPlain_66 (by decide) ?_
      refine V_iload_n (pc := 67) dX5_readPlain_67 rfl ?_
      refine V_iconst (pc := 68) (v := nI 1) dX5_readPlain_68 (by decide) ?_
      refine V_iaddN (pc := 69) dX5_readPlain_69 ?_
      refine V_callV (pc := 70) (ci := 5) hC dX5_readPlain_70 mlX5_125 mkX5_readTest rfl rfl h5.o ⟨by decide, rfl⟩ (rmS (by first | omega | (show _ + 6 + 1 ≤ _; omega)) (Nat.le_of_ble_eq_true rfl)) (Nat.le_of_ble_eq_true rfl) ⟨Nat.le_of_ble_eq_true rfl, Nat.le_of_ble_eq_true rfl⟩ (fun r S' I' L' hp => ?_)
      skip
      obtain ⟨rfl, rfl, hFr, ⟨g1, rfl, k', hk', h4', hp'⟩ | ⟨G, g1, rfl, k', c', hR', hp', hkk, hcc, hsg, hTG⟩⟩ := hp
      · rw [bd_n g1, nots_n g1]
        refine V_if_eqB (pc := 73) (tgt := 85) dX5_readPlain_73 (by decide) (fun c73 => ?_) (fun n73 => absurd n73 (by decide))
        refine V_iconst (pc := 85) (v := nI 0) dX5_readPlain_85 (by decide) ?_
        refine V_zretB (pc := 86) (p := false) dX5_readPlain_86 rfl rfl (by first | decide | omega) (by first | decide | omega) ?_
        exact ⟨rfl, rfl, (hFr.tr (FrX5.rf.u (by omega))).tr hF, Or.inl ⟨g1, rfl, k', hk', h4', hp'⟩⟩
      · rw [bd_s g1]
        by_cases h141 : tc t n r1.1 = 141
        · rw [if_pos h141]
          have hk2 := hR'.lt (by rw [hp', h141]; decide)
          refine V_if_eqB (pc := 73) (tgt := 85) dX5_readPlain_73 (by decide) (fun c73 => absurd c73 (by decide)) (fun n73 => ?_)
          refine V_aload_n (pc := 76) dX5_readPlain_76 rfl ?_
          refine V_bipush (pc := 77) (v := nI 41) dX5_readPlain_77 (by decide) ?_
          refine V_callVd (pc := 79) (ci := 5) (c_X5_isSign (x := 41) h5 hR' hb (by omega)) dX5_readPlain_79 mlX5_74 mkX5_isSign rfl rfl h5.o ⟨by decide, rfl⟩ (rmS (by omega) (Nat.le_of_ble_eq_true rfl)) (Nat.le_of_ble_eq_true rfl) ⟨Nat.le_of_ble_eq_true rfl, Nat.le_of_ble_eq_true rfl⟩ ?_
          refine V_if_neB (pc := 82) (tgt := 87) dX5_readPlain_82 (by decide) (fun c82 => ?_) (fun n82 => absurd n82 (by simp [hp', h141]))
          refine V_aload_n (pc := 87) dX5_readPlain_87 rfl ?_
          refine V_callVn (pc := 88) (ci := 5) (c_X5_goOn h5 hR' hk2) dX5_readPlain_88 mlX5_78 mkX5_goOn rfl rfl h5.o ⟨by decide, rfl⟩ (rmS (by omega) (Nat.le_of_ble_eq_true rfl)) (Nat.le_of_ble_eq_true rfl) ⟨Nat.le_of_ble_eq_true rfl, Nat.le_of_ble_eq_true rfl⟩ ?_
          refine V_goto (pc := 91) (tgt := 140) dX5_readPlain_91 (by decide) ?_
          exact rpl_fin (s := s) (by omega) h5 (hR'.go hk2) (by rw [pk_s, hp']) hc hs (by omega) (by omega) hsg (hTG (by omega)) ((FrX5.rf.u (by omega)).tr ((hFr.tr (FrX5.rf.u (by omega))).tr hF))
        · rw [if_neg h141, nots_n rfl]
          refine V_if_eqB (pc := 73) (tgt := 85) dX5_readPlain_73 (by decide) (fun c73 => absurd c73 (by decide)) (fun n73 => ?_)
          refine V_aload_n (pc := 76) dX5_readPlain_76 rfl ?_
          refine V_bipush (pc := 77) (v := nI 41) dX5_readPlain_77 (by decide) ?_
          refine V_callVd (pc := 79) (ci := 5) (c_X5_isSign (x := 41) h5 hR' hb (by omega)) dX5_readPlain_79 mlX5_74 mkX5_isSign rfl rfl h5.o ⟨by decide, rfl⟩ (rmS (by omega) (Nat.le_of_ble_eq_true rfl)) (Nat.le_of_ble_eq_true rfl) ⟨Nat.le_of_ble_eq_true rfl, Nat.le_of_ble_eq_true rfl⟩ ?_
          refine V_if_neB (pc := 82) (tgt := 87) dX5_readPlain_82 (by decide) (fun c82 => absurd c82 (by simp [hp', h141])) (fun n82 => ?_)
          refine V_iconst (pc := 85) (v := nI 0) dX5_readPlain_85 (by decide) ?_
          refine V_zretB (pc := 86) (p := false) dX5_readPlain_86 rfl rfl (by first | decide | omega) (by first | decide | omega) ?_
          exact ⟨rfl, rfl, (hFr.tr (FrX5.rf.u (by omega))).tr hF, Or.inl ⟨rfl, rfl, k', hR'.2.1, hR'.2.2.1, hp'⟩⟩
  · rw [if_neg h140]
    have hC := hS d k l c I L F s hd (by rw [show rkn 0 = 3 from rfl]; omega) hR (by omega) hs hl
    have hPL := ps_le (t := t) (od := od) f 0 d (pk t n k) l F hpn
    generalize ps t n od f 0 d (pk t n k) l F = r1 at hC hPL ⊢
    refine V_iload_n (pc := 4) dX5_readPlain_4 rfl ?_
    refine V_sipush (pc := 5) (v := nI 400) dX5_readPlain_5 (by decide) ?_
    refine V_icmp_gtN (pc := 8) (tgt := 44) dX5_readPlain_8 (by decide) (by omega) (by omega) (fun c8 => absurd c8 (by omega)) (fun n8 => ?_)
    refine V_aload_n (pc := 11) dX5_readPlain_11 rfl ?_
    refine V_getR (pc := 12) 5 1 dX5_readPlain_12 flX5_17 (by decide) h5.o h5.R1 ?_
    refine V_aload_n (pc := 15) dX5_readPlain_15 rfl ?_
    refine V_getIE (pc := 16) 5 4 dX5_readPlain_16 flX5_27 (by decide) h5.o (h4) ?_
    refine V_ialoadE (pc := 19) dX5_readPlain_19 h5.A1 (by first | decide | omega) (by omega) (htk) ?_
    refine V_iconst (pc := 20) (v := nI 3) dX5_readPlain_20 (by decide) ?_
    refine V_icmp_neN (pc := 21) (tgt := 44) dX5_readPlain_21 (by decide) (by omega) (by omega) (fun c21 => ?_) (fun n21 => absurd n21 (by omega))
    refine V_aload_n (pc := 44) dX5_readPlain_44 rfl ?_
    refine V_bipush (pc := 45) (v := nI 40) dX5_readPlain_45 (by decide) ?_
    refine V_callVd (pc := 47) (ci := 5) (c_X5_isSign (x := 40) h5 hR hb (by omega)) dX5_readPlain_47 mlX5_74 mkX5_isSign rfl rfl h5.o ⟨by decide, rfl⟩ (rmS (by first | omega | (show _ + 3 + 1 ≤ _; omega)) (Nat.le_of_ble_eq_true rfl)) (Nat.le_of_ble_eq_true rfl) ⟨Nat.le_of_ble_eq_true rfl, Nat.le_of_ble_eq_true rfl⟩ ?_
    refine V_if_eqB (pc := 50) (tgt := 94) dX5_readPlain_50 (by decide) (fun c50 => ?_) (fun n50 => absurd n50 (by simp [h140]))
    refine V_aload_n (pc := 94) dX5_readPlain_94 rfl ?_
    refine V_iconst (pc := 95) (v := nI 0) dX5_readPlain_95 (by decide) ?_
    refine V_iload_n (pc := 96) dX5_readPlain_96 rfl ?_
    refine V_callV (pc := 97) (ci := 5) hC dX5_readPlain_97 mlX5_141 mkX5_readSum rfl rfl h5.o ⟨by decide, rfl⟩ (rmS (by first | omega | (show _ + 3 + 1 ≤ _; omega)) (Nat.le_of_ble_eq_true rfl)) (Nat.le_of_ble_eq_true rfl) ⟨Nat.le_of_ble_eq_true rfl, Nat.le_of_ble_eq_true rfl⟩ (fun r S' I' L' hp => ?_)
    skip
    obtain ⟨rfl, rfl, hFr, ⟨g1, rfl, k', hk', h4', hp'⟩ | ⟨G, g1, rfl, k', c', hR', hp', hkk, hcc, hsg, -⟩⟩ := hp
    · rw [bd_n g1, nots_n g1]
      refine V_if_neB (pc := 100) (tgt := 105) dX5_readPlain_100 (by decide) (fun c100 => absurd c100 (by decide)) (fun n100 => ?_)
      refine V_iconst (pc := 103) (v := nI 0) dX5_readPlain_103 (by decide) ?_
      refine V_zretB (pc := 104) (p := false) dX5_readPlain_104 rfl rfl (by first | decide | omega) (by first | decide | omega) ?_
      exact ⟨rfl, rfl, hFr.tr hF, Or.inl ⟨g1, rfl, k', hk', h4', hp'⟩⟩
    · rw [bd_s g1]
      obtain ⟨p1, p2, p3, p4, p5⟩ := hPL
      have p6 := p5 G g1
      rw [if_pos (by decide)] at p6
      have hcm := c_X5_comparisonHere (E := E) (S := S) (L := L) h5 hR' hb
      rw [hp'] at hcm
      by_cases h0 : cmpS (tc t n r1.1) = 0
      · rw [if_pos h0, nots_n rfl]
        rw [h0] at hcm
        refine V_if_neB (pc := 100) (tgt := 105) dX5_readPlain_100 (by decide) (fun c100 => ?_) (fun n100 => absurd n100 (by decide))
        refine V_aload_n (pc := 105) dX5_readPlain_105 rfl ?_
        refine V_callVd (pc := 106) (ci := 5) hcm dX5_readPlain_106 mlX5_147 mkX5_comparisonHere rfl rfl h5.o ⟨by decide, rfl⟩ (rmS (by omega) (Nat.le_of_ble_eq_true rfl)) (Nat.le_of_ble_eq_true rfl) ⟨Nat.le_of_ble_eq_true rfl, Nat.le_of_ble_eq_true rfl⟩ ?_
        refine V_istore_n (pc := 109) (ls' := [(0, _), (1, _), (2, _), (3, _)]) dX5_readPlain_109 (by decide) rfl ?_
        refine V_iload_n (pc := 110) dX5_readPlain_110 rfl ?_
        refine V_if_neN (pc := 111) (tgt := 116) dX5_readPlain_111 (by decide) (by omega) (fun c111 => absurd c111 (by omega)) (fun n111 => ?_)
        refine V_iconst (pc := 114) (v := nI 0) dX5_readPlain_114 (by decide) ?_
        refine V_zretB (pc := 115) (p := false) dX5_readPlain_115 rfl rfl (by first | decide | omega) (by first | decide | omega) ?_
        exact ⟨rfl, rfl, hFr.tr hF, Or.inl ⟨rfl, rfl, k', hR'.2.1, hR'.2.2.1, hp'⟩⟩
      · rw [if_neg h0]
        have hk2 := hR'.lt (by rw [hp']; exact cmpS_n92 h0)
        have hpp := pkm_lt hR'.1 hk2
        have hcr : 25 ≤ cmpS (tc t n r1.1) ∧ cmpS (tc t n r1.1) < 28 := by
          unfold cmpS at h0 ⊢
          split; omega; rename_i h1; rw [if_neg h1] at h0; split; omega; rename_i h2; rw [if_neg h2] at h0; split; omega; rename_i h3; rw [if_neg h3] at h0; omega
        have hC2 := hS d (k' + 1) r1.2.1 c' (up2 I' o 4 (nI (k' + 1))) L F s hd (by rw [show rkn 0 = 3 from rfl]; omega) (hR'.go hk2) (by omega) hs (p4 hl)
        rw [pk_s, hp'] at hC2
        generalize cmpS (tc t n r1.1) = x at hcm hcr h0 ⊢
        generalize ps t n od f 0 d (nxt t n r1.1) r1.2.1 F = r2 at hC2 ⊢
        have hF1 := hFr.tr hF
        refine V_if_neB (pc := 100) (tgt := 105) dX5_readPlain_100 (by decide) (fun c100 => ?_) (fun n100 => absurd n100 (by decide))
        refine V_aload_n (pc := 105) dX5_readPlain_105 rfl ?_
        refine V_callVd (pc := 106) (ci := 5) hcm dX5_readPlain_106 mlX5_147 mkX5_comparisonHere rfl rfl h5.o ⟨by decide, rfl⟩ (rmS (by first | omega | (show _ + 3 + 1 ≤ _; omega)) (Nat.le_of_ble_eq_true rfl)) (Nat.le_of_ble_eq_true rfl) ⟨Nat.le_of_ble_eq_true rfl, Nat.le_of_ble_eq_true rfl⟩ ?_
        refine V_istore_n (pc := 109) (ls' := [(0, _), (1, _), (2, _), (3, _)]) dX5_readPlain_109 (by decide) rfl ?_
        refine V_iload_n (pc := 110) dX5_readPlain_110 rfl ?_
        refine V_if_neN (pc := 111) (tgt := 116) dX5_readPlain_111 (by decide) (by omega) (fun c111 => ?_) (fun n111 => absurd n111 (by omega))
        refine V_aload_n (pc := 116) dX5_readPlain_116 rfl ?_
        refine V_callVn (pc := 117) (ci := 5) (c_X5_goOn h5 hR' hk2) dX5_readPlain_117 mlX5_78 mkX5_goOn rfl rfl h5.o ⟨by decide, rfl⟩ (rmS (by first | omega | (show _ + 3 + 1 ≤ _; omega)) (Nat.le_of_ble_eq_true rfl)) (Nat.le_of_ble_eq_true rfl) ⟨Nat.le_of_ble_eq_true rfl, Nat.le_of_ble_eq_true rfl⟩ ?_
        refine V_aload_n (pc := 120) dX5_readPlain_120 rfl ?_
        refine V_iconst (pc := 121) (v := nI 0) dX5_readPlain_121 (by decide) ?_
        refine V_iload_n (pc := 122) dX5_readPlain_122 rfl ?_
        refine V_callV (pc := 123) (ci := 5) hC2 dX5_readPlain_123 mlX5_141 mkX5_readSum rfl rfl h5.o ⟨by decide, rfl⟩ (rmS (by first | omega | (show _ + 3 + 1 ≤ _; omega)) (Nat.le_of_ble_eq_true rfl)) (Nat.le_of_ble_eq_true rfl) ⟨Nat.le_of_ble_eq_true rfl, Nat.le_of_ble_eq_true rfl⟩ (fun r S' I' L' hp => ?_)
        skip
        obtain ⟨rfl, rfl, hFr2, ⟨q1, rfl, k2, hk2', h42, hp2⟩ | ⟨H, q1, rfl, k2, c2, hR2, hp2, hkk2, hcc2, hsg2, -⟩⟩ := hp
        · rw [bd_n q1, nots_n q1]
          refine V_if_eqB (pc := 126) (tgt := 138) dX5_readPlain_126 (by decide) (fun c126 => ?_) (fun n126 => absurd n126 (by decide))
          refine V_iconst (pc := 138) (v := nI 0) dX5_readPlain_138 (by decide) ?_
          refine V_zretB (pc := 139) (p := false) dX5_readPlain_139 rfl rfl (by first | decide | omega) (by first | decide | omega) ?_
          exact ⟨rfl, rfl, (hFr2.tr (FrX5.rf.u (by omega))).tr hF1, Or.inl ⟨q1, rfl, k2, hk2', h42, hp2⟩⟩
        · rw [bd_s q1]
          have hkm2 := hR2.2.1
          have hRp := hR2.put (a := x - 17) (x := x) (b := 0) (by unfold itC; rw [if_neg (by omega), if_neg (by omega), if_pos (by omega)]) (by unfold opC; omega) (by omega) (fun z => by omega)
          refine V_if_eqB (pc := 126) (tgt := 138) dX5_readPlain_126 (by decide) (fun c126 => absurd c126 (by decide)) (fun n126 => ?_)
          refine V_aload_n (pc := 129) dX5_readPlain_129 rfl ?_
          refine V_iload_n (pc := 130) dX5_readPlain_130 rfl ?_
          refine V_iconst (pc := 131) (v := nI 0) dX5_readPlain_131 (by decide) ?_
          refine V_callVd (pc := 132) (ci := 5) (c_X5_put (a := x - 17) h5 hR2 (by omega)) dX5_readPlain_132 mlX5_131 mkX5_put rfl rfl h5.o ⟨by decide, rfl⟩ (rmS (by omega) (Nat.le_of_ble_eq_true rfl)) (Nat.le_of_ble_eq_true rfl) ⟨Nat.le_of_ble_eq_true rfl, Nat.le_of_ble_eq_true rfl⟩ ?_
          refine V_if_neB (pc := 135) (tgt := 140) dX5_readPlain_135 (by decide) (fun c135 => ?_) (fun n135 => absurd n135 (by decide))
          exact rpl_fin (s := s) (by omega) h5 hRp hp2 hc hs (by omega) (by show c2.2.2 + 1 + _ + _ ≤ _; omega) (hsg.bin hsg2 (by omega) hcr.2) (TFo.bin hcr.1 G H) (((hFr2.tr (FrX5.rf.u (by omega))).tr hF1).pw)
end RV
