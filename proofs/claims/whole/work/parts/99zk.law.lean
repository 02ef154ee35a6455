/-! THE CLASS: law -/
section NZ
variable {E : EnT} {k : MI} {R : Room} {Q : QT} {cl sl : Nat} {S : ST} {I : IT} {L : LT} {pc : Nat} {ls : List (Nat × Value)} {st : List Value}
theorem V_astore_nZ {j : Fin 4} {ls' : List (Nat × Value)} (hd : decode k.2.1 pc = .ok (.astore_n j, 1)) (hn : (j : Nat) < k.2.2.1) (hl0 : sto1 ls j .null = ls') (h : V E k R Q cl sl S I L (pc + 1) ls' st) : V E k R Q cl sl S I L pc ls (.null :: st) := by
  intro p e s m args below meth c H locs lsA hc hr hS hl
  subst hl0
  exact lv_astore_nN hc.1 hc.2.1 hd rfl hl hn rfl (fun la hla => h p e s m args below meth c H locs la hc hr hS (has_insk hla))
theorem V_aload_nZ {j : Fin 4} (hd : decode k.2.1 pc = .ok (.aload_n j, 1)) (hv : lk ls j = some .null) (h : V E k R Q cl sl S I L (pc + 1) ls (.null :: st)) : V E k R Q cl sl S I L pc ls st := by
  intro p e s m args below meth c H locs lsA hc hr hS hl
  exact lv_aload_nN hc.1 hc.2.1 hd rfl (lk_at hl hv) (h p e s m args below meth c H locs lsA hc hr hS hl)
end NZ
theorem TxG.law {E : EnT} {S : ST} {I : IT} {a : Nat} {d : RdT} (h : TxG E S I a false d) : TxM E S I a (toLw d) := by
  obtain ⟨h12, c, h1, h2, h3, h4, h5⟩ := h
  refine ⟨h12, c.2.2, c.1, c.2.1, h1, h2, h3, fun k hk => ?_, fun k hk => (h4 k hk).2.2.2.2, fun j hj => ?_⟩
  · obtain ⟨a1, a2, a3, a4, a5⟩ := h4 k hk
    refine ⟨a1, a2, a3, a4, fun z => ?_⟩
    have := a5 z
    unfold wdk at this
    rw [if_neg (by decide)] at this
    omega
  · obtain ⟨a1, a2, a3, a4, a5, a6, a7, a8⟩ := h5 j hj
    refine ⟨a1, a4, fun z => ?_, fun z => ?_, a8⟩
    · have z : (d.2 j).1 ≠ 3 := z
      have hl : (d.2 j).2.2.1.length = 1 := by
        rw [a3]; unfold sms; rw [if_neg (by decide), if_neg z]
      exact a6 0 (by omega)
    · have z : (d.2 j).1 = 3 := z
      have hl : (d.2 j).2.2.1.length = 0 := by
        rw [a3]; unfold sms; rw [if_neg (by decide), if_pos z]
      refine ⟨a7 0 (by omega) (by omega), ?_⟩
      show (d.2 j).2.2.1.getD 0 one = one
      rw [List.eq_nil_of_length_eq_zero hl]; rfl
section GR
variable {E : EnT} {S S' : ST} {I I' : IT} {L : LT} {B : Nat} {A : AT}
theorem TxM.lt {a : Nat} {law : LawT} (h : TxM E S I a law) : a + 5 < eB E + S.1 := by
  obtain ⟨_, m, op, arg, h1, _⟩ := h
  exact h1.A5.1.2
theorem TxM.gr {a : Nat} {law : LawT} {P : Nat → Prop} (h : TxM E S I a law) (e : Ext E S S' P) (p : P a) (eI : ∀ x, a ≤ x → x ≤ a + 5 → x < eB E + S.1 → I' x = I x) : TxM E S' I' a law := by
  have hl := h.lt
  exact (h.cg (I' := I') fun x x1 x2 => eI x x1 x2 (by omega)).ext e p
theorem LwC.gr {g tt : Nat} {q : Nat → Nat} {lw : Nat → LawT} (h : LwC E S I B g tt q lw) (e : Ext E S S' (NT B)) (hr : S'.2.2 (g + 13) = S.2.2 (g + 13)) (eI : ∀ x, (B + 30 ≤ x ∧ x ≤ B + 35 ∨ B + 365 ≤ x) → x < eB E + S.1 → I' x = I x) : LwC E S' I' B g tt q lw := by
  have key : ∀ {a law}, TxM E S I a law → txa B a → TxM E S' I' a law := fun {a law} ht ha => ht.gr e ha.nt fun x x1 x2 x3 => eI x (by unfold txa at ha; omega) x3
  refine ⟨fun l hl => ?_, h.2.1, key h.2.2 h.2.1⟩
  obtain ⟨a, h1, h2, h3⟩ := h.1 l hl
  exact ⟨a, by rw [hr]; exact h1, key h2 h3, h3⟩
theorem CR.gr {v : Int32} (h : CR E S B I A) (e : Ext E S S' (NT B)) (hr : ∀ g, (g = B + 36 ∨ g = B + 50 ∨ g = B + 64) → S'.2.2 (g + 13) = S.2.2 (g + 13)) (hz : B + 329 ≤ eB E + S.1) (eI : ∀ x, (x < B + 21 ∨ (B + 29 < x ∧ x < eB E + S.1)) → I' x = I x) (hv : I' (B + 21) 13 = v) : CR E S' B I' (sfl A v) := by
  obtain ⟨h1, h2, h3, h4, h5, h6, h7, h8⟩ := h
  have e2 : ∀ x, B + 29 < x → x < eB E + S.1 → I' x = I x := fun x x1 x2 => eI x (Or.inr ⟨x1, x2⟩)
  refine ⟨h1.cg fun x x1 x2 => e2 x (by omega) (by omega), h2.gr e (hr _ (Or.inl rfl)) fun x x1 x2 => e2 x (by omega) x2, h3.cg fun x x1 x2 => e2 x (by omega) (by omega), fun k hk => ?_, h5.cg fun x hx => eI x (by omega), ?_, h7.cg fun x x1 x2 => e2 x (by omega) (by omega), fun g hg l hl => ?_⟩
  · obtain ⟨m1, m2⟩ := h4 k hk
    refine ⟨by rw [eI (B + 2) (by omega)]; exact m1, fun m => ⟨(m2 m).1.cg fun x x1 x2 => e2 x (by omega) (by omega), (m2 m).2.gr e (hr _ ?_) fun x x1 x2 => e2 x (by omega) x2⟩⟩
    have hc : k = 0 ∨ k = 1 := by omega
    rcases hc with rfl | rfl
    · exact Or.inr (Or.inl rfl)
    · exact Or.inr (Or.inr rfl)
  · obtain ⟨x1, x2, x3, x4, x5⟩ := h6
    refine ⟨by rw [eI B (by omega)]; exact x1, hv, by rw [eI B (by omega)]; exact x3, by rw [eI B (by omega)]; exact x4, fun r hr => by rw [eI (B + 17) (by omega)]; exact x5 r hr⟩
  · obtain ⟨a, a1, a2⟩ := h8 g hg l hl
    exact ⟨a, by rw [hr g hg]; exact a1, a2.ext e⟩
/-- a law more -/
theorem CR.nl {a : Nat} {law : LawT} (h : CR E S B I A) (h11 : Lay11 E S B) (h3 : aq A 3 < 6) (hT : TxM E S I a law) (ha : txa B a) : CR E (S.1, S.2.1, up2 S.2.2 (B + 49) (aq A 3) (some a)) B (up2 I (B + 36) 8 (nI (aq A 3 + 1))) (sq (sla A (setf (alw A) (aq A 3) law)) (setq (aq A) 3 (aq A 3 + 1))) := by
  obtain ⟨g1, g2, g3, g4, g5, g6, g7, g8⟩ := h
  have e : Ext E S (S.1, S.2.1, up2 S.2.2 (B + 49) (aq A 3) (some a)) (NT B) := Ext.uS.wk fun x hx => hx.1
  have hq : ∀ i, i ≠ 3 → setq (aq A) 3 (aq A 3 + 1) i = aq A i := fun i hi => setq_n hi
  have eI : ∀ x, x ≠ B + 36 → up2 I (B + 36) 8 (nI (aq A 3 + 1)) x = I x := fun x hx => up2_row hx
  have hTk : ∀ {b law}, TxM E S I b law → txa B b → TxM E (S.1, S.2.1, up2 S.2.2 (B + 49) (aq A 3) (some a)) (up2 I (B + 36) 8 (nI (aq A 3 + 1))) b law := fun {b law} ht ha => ht.gr e ha.nt fun x x1 x2 x3 => eI x (by unfold txa at ha; omega)
  obtain ⟨v1, v2, v3, v4, v5, v6, v7, v8⟩ := g1
  refine ⟨⟨(v1.cg fun x x1 x2 => eI x (by omega)).ext fun i hi => hq i (by omega), ?_, fun s hs => ?_, fun s hs => ?_, ?_, fun k hk => ?_, ?_, ?_⟩, ⟨fun l hl => ?_, g2.2.1, hTk g2.2.2 g2.2.1⟩, (g3.cg fun x x1 x2 => eI x (by omega)).q0 (hq 0 (by omega)), fun k hk => ?_, g5.cg fun x hx => eI x (by omega), g6.cg fun x hx => eI x (by omega), g7.cg fun x x1 x2 => eI x (by omega), fun g hg l hl => ?_⟩
  · rw [up2_nej (by omega)]; rw [show aq (sq (sla A (setf (alw A) (aq A 3) law)) (setq (aq A) 3 (aq A 3 + 1))) 1 = aq A 1 from hq 1 (by omega)]; exact v2
  · rw [eI _ (by omega)]; rw [show aq (sq (sla A (setf (alw A) (aq A 3) law)) (setq (aq A) 3 (aq A 3 + 1))) (80 + s) = aq A (80 + s) from hq _ (by omega)]; exact v3 s hs
  · rw [eI _ (by omega)]; rw [show aq (sq (sla A (setf (alw A) (aq A 3) law)) (setq (aq A) 3 (aq A 3 + 1))) (86 + s) = aq A (86 + s) from hq _ (by omega)]; exact v4 s hs
  · rw [up2_nej (by omega)]; rw [show aq (sq (sla A (setf (alw A) (aq A 3) law)) (setq (aq A) 3 (aq A 3 + 1))) 2 = aq A 2 from hq 2 (by omega)]; exact v5
  · have hz : ∀ i, 92 ≤ i → aq (sq (sla A (setf (alw A) (aq A 3) law)) (setq (aq A) 3 (aq A 3 + 1))) i = aq A i := fun i hi => hq i (by omega)
    rw [eI _ (by omega), eI _ (by omega), eI _ (by omega), hz _ (by omega), hz _ (by omega), hz _ (by omega)]; exact v6 k hk
  · rw [up2_self]
    show _ = nI (setq (aq A) 3 (aq A 3 + 1) 3)
    rw [setq_s]
  · rw [up2_nej (by omega)]; rw [show aq (sq (sla A (setf (alw A) (aq A 3) law)) (setq (aq A) 3 (aq A 3 + 1))) 4 = aq A 4 from hq 4 (by omega)]; exact v8
  · have hl : l < setq (aq A) 3 (aq A 3 + 1) 3 := hl
    rw [setq_s] at hl
    by_cases z : l = aq A 3
    · subst z
      refine ⟨a, ?_, ?_, ha⟩
      · show up2 S.2.2 (B + 49) (aq A 3) (some a) (B + 36 + 13) (aq A 3) = some a
        exact up2_self
      · show TxM _ _ _ a (setf (alw A) (aq A 3) law (aq A 3))
        rw [setf_s]; exact hTk hT ha
    · obtain ⟨b, b1, b2, b3⟩ := g2.1 l (by omega)
      refine ⟨b, ?_, ?_, b3⟩
      · show up2 S.2.2 (B + 49) (aq A 3) (some a) (B + 36 + 13) l = some b
        rw [up2_nej z]; exact b1
      · show TxM _ _ _ b (setf (alw A) (aq A 3) law l)
        rw [setf_n z]; exact hTk b2 b3
  · obtain ⟨m1, m2⟩ := g4 k hk
    refine ⟨by rw [eI _ (by omega)]; exact m1, fun m => ⟨(m2 m).1.cg fun x x1 x2 => eI x (by omega), (m2 m).2.gr e (by show up2 S.2.2 (B + 49) _ _ _ = _; rw [up2_row (by omega)]) fun x x1 x2 => eI x (by omega)⟩⟩
  · by_cases z : g = B + 36 ∧ l = aq A 3
    · obtain ⟨rfl, rfl⟩ := z
      refine ⟨a, up2_self, ?_⟩
      obtain ⟨_, m, op, arg, t1, _⟩ := hT
      exact t1.o.ext e
    · obtain ⟨b, b1, b2⟩ := g8 g hg l hl
      refine ⟨b, ?_, b2.ext e⟩
      show up2 S.2.2 (B + 49) (aq A 3) (some a) (g + 13) l = some b
      by_cases y : g = B + 36
      · subst y; rw [up2_nej (by intro w; exact z ⟨rfl, w⟩)]; exact b1
      · rw [up2_row (by omega)]; exact b1
end GR
section LA
variable {E : EnT} {S : ST} {I : IT} {L : LT} {B : Nat} {A : AT}
/-- calls that make texts -/
def PNw (E : EnT) (S : ST) (I : IT) (L : LT) (B : Nat) (v : Int32) (A' : AT) (r : Option Value) (S' : ST) (I' : IT) (L' : LT) : Prop := r = some (.int v) ∧ L = L' ∧ CR E S' B I' A' ∧ BL E S' I' L ∧ Ext E S S' (NT B) ∧ S.1 ≤ S'.1 ∧ ∀ x, B + 329 ≤ x → x < eB E + S.1 → I' x = I x
theorem CR.tp0 (h : CR E S B I A) : CR E S B (up2 I B 10 (nI 0)) (tp0 A) := by
  refine h.tt (fun x h1 h2 => up2_row h1) (fun i h1 h2 => up2_nej (by omega)) ⟨up2_self, fun i hi => absurd hi (Nat.not_lt_zero i)⟩
theorem CR.tr (h : CR E S B I A) (h11 : Lay11 E S B) (hA : wfA A) {v : Int32} : TR E S (up2 I B 10 v) (B + 16) (atp A).2 (atp A).1 := by
  refine ⟨h11.A9, fun i hi => ?_, hA.2.2.2.2.2.1, hA.2.2.2.2.2.2.1⟩
  rw [up2_row (by omega)]
  exact h.2.2.2.2.1.2 i hi
theorem spLaw_n (h3 : aq A 3 ≠ 6) (h : (rdR (atp A).2 (atp A).1 false).2 = none) : spLaw A = (-(nI 6), rfs (sfl (tp0 A) (nI (rdR (atp A).2 (atp A).1 false).1)) 6) := by
  unfold spLaw
  rw [if_neg h3, lwR_rd, h]
  rfl
theorem spLaw_s {d : RdT} (h3 : aq A 3 ≠ 6) (h : (rdR (atp A).2 (atp A).1 false).2 = some d) : spLaw A = (nI (aq A 3), ok0 (sq (sla (sfl (tp0 A) (-1)) (setf (alw A) (aq A 3) (toLw d))) (setq (aq A) 3 (aq A 3 + 1)))) := by
  unfold spLaw
  rw [if_neg h3, lwR_rd, h]
  rfl
theorem c_X11_law (h11 : Lay11 E S B) (hR : CR E S B I A) (hA : wfA A) (hB : BL E S I L) (hz : B + 365 ≤ eB E + S.1) : C E kX11_law 33 6 974 [.ref B] S I L (PNw E S I L B (spLaw A).1 (spLaw A).2) := by
  have h10 : I B 10 = nI (atp A).1 := hR.2.2.2.2.1.1
  have hv3 : I (B + 36) 8 = nI (aq A 3) := hR.1.2.2.2.2.2.2.1
  have h3 : aq A 3 ≤ 6 := hA.1.nl
  have hb : B < eB E + S.1 := by omega
  have h0 := h11.O0
  have e8 : up2 I B 10 (nI 0) (B + 36) 8 = nI (aq A 3) := (up2_ne (by omega)).trans hv3
  refine C_of (by decide) (Nat.le_of_ble_eq_true rfl) ?_
  by_cases h6 : aq A 3 = 6
  · have es : spLaw A = (-(nI 5), rfs (tp0 A) 5) := by unfold spLaw; rw [if_pos h6]
    rw [es]
    refine V_aload_n (pc := 0) dX11_law_0 rfl ?_
    refine V_getIE (pc := 1) 11 10 dX11_law_1 flX11_37 (by decide) h11.o (h10) ?_
    refine V_istore_n (pc := 4) (ls' := [(0, _), (1, _)]) dX11_law_4 (by decide) rfl ?_
    refine V_aload_n (pc := 5) dX11_law_5 rfl ?_
    refine V_iconst (pc := 6) (v := nI 0) dX11_law_6 (by decide) ?_
    refine V_putI (pc := 7) 11 10 dX11_law_7 flX11_37 (by decide) (by decide) (Or.inl rfl) rfl rfl h11.o ?_
    refine V_aload_n (pc := 10) dX11_law_10 rfl ?_
    refine V_getR (pc := 11) 11 0 dX11_law_11 flX11_91 (by decide) h11.o h11.R0 ?_
    refine V_getIE (pc := 14) 10 8 dX11_law_14 flX11_215 (by decide) h11.O0.o (e8) ?_
    refine V_bipush (pc := 17) (v := nI 6) dX11_law_17 (by decide) ?_
    refine V_icmp_ltN (pc := 19) (tgt := 29) dX11_law_19 (by decide) (by omega) (by omega) (fun c19 => absurd c19 (by omega)) (fun n19 => ?_)
    refine V_aload_n (pc := 22) dX11_law_22 rfl ?_
    refine V_bipush (pc := 23) (v := (-5)) dX11_law_23 (by decide) ?_
    refine V_callVd (pc := 25) (ci := 11) (c_X11_refuse (r := 5) h11 (by decide) (by decide) (by decide)) dX11_law_25 mlX11_112 mkX11_refuse rfl rfl h11.o ⟨by decide, rfl⟩ ⟨Nat.le_of_ble_eq_true rfl, Nat.le_of_ble_eq_true rfl⟩ (Nat.le_of_ble_eq_true rfl) ⟨Nat.le_of_ble_eq_true rfl, Nat.le_of_ble_eq_true rfl⟩ ?_
    refine V_iret (pc := 28) dX11_law_28 rfl (by first | decide | omega) (by first | decide | omega) ?_
    refine ⟨rfl, rfl, hR.tp0.hrf, ?_, Ext.rf, Nat.le_refl _, fun x x1 x2 => ?_⟩
    · exact ((hB.u2 hb).u2 hb).u2 (by omega)
    · unfold rfuC; rw [up2_row (by omega), up2_row (by omega), up2_row (by omega)]
  · have hC := c_X5_read (od := false) (L := L) h11.O8 (show B + 16 < B + 21 by omega) (hR.tr h11 hA (v := nI 0)) (hB.u2 (i := 10) (v := nI 0) hb)
    cases hr : (rdR (atp A).2 (atp A).1 false).2 with
    | none =>
      rw [spLaw_n h6 hr]
      generalize rdR (atp A).2 (atp A).1 false = r0 at hC hr
      refine V_aload_n (pc := 0) dX11_law_0 rfl ?_
      refine V_getIE (pc := 1) 11 10 dX11_law_1 flX11_37 (by decide) h11.o (h10) ?_
      refine V_istore_n (pc := 4) (ls' := [(0, _), (1, _)]) dX11_law_4 (by decide) rfl ?_
      refine V_aload_n (pc := 5) dX11_law_5 rfl ?_
      refine V_iconst (pc := 6) (v := nI 0) dX11_law_6 (by decide) ?_
      refine V_putI (pc := 7) 11 10 dX11_law_7 flX11_37 (by decide) (by decide) (Or.inl rfl) rfl rfl h11.o ?_
      refine V_aload_n (pc := 10) dX11_law_10 rfl ?_
      refine V_getR (pc := 11) 11 0 dX11_law_11 flX11_91 (by decide) h11.o h11.R0 ?_
      refine V_getIE (pc := 14) 10 8 dX11_law_14 flX11_215 (by decide) h11.O0.o (e8) ?_
      refine V_bipush (pc := 17) (v := nI 6) dX11_law_17 (by decide) ?_
      refine V_icmp_ltN (pc := 19) (tgt := 29) dX11_law_19 (by decide) (by omega) (by omega) (fun c19 => ?_) (fun n19 => absurd n19 (by omega))
      refine V_aload_n (pc := 29) dX11_law_29 rfl ?_
      refine V_getR (pc := 30) 11 8 dX11_law_30 flX11_87 (by decide) h11.o h11.R8 ?_
      refine V_aload_n (pc := 33) dX11_law_33 rfl ?_
      refine V_getR (pc := 34) 11 9 dX11_law_34 flX11_33 (by decide) h11.o h11.R9 ?_
      refine V_iload_n (pc := 37) dX11_law_37 rfl ?_
      refine V_iconst (pc := 38) (v := nI 0) dX11_law_38 (by decide) ?_
      refine V_callV (pc := 39) (ci := 5) hC dX11_law_39 mlX11_218 mkX5_read rfl rfl h11.O8.o ⟨by decide, rfl⟩ ⟨Nat.le_of_ble_eq_true rfl, Nat.le_of_ble_eq_true rfl⟩ (Nat.le_of_ble_eq_true rfl) ⟨Nat.le_of_ble_eq_true rfl, Nat.le_of_ble_eq_true rfl⟩ (fun r S' I' L' hp => ?_)
      skip
      obtain ⟨rfl, hB2, hF, ⟨-, rfl, rfl, h13⟩ | ⟨d, g1, _⟩⟩ := hp
      · have hR2 := hR.tp0.gr Ext.rf (fun _ _ => rfl) (by omega) hF h13
        show V E kX11_law (rmOf 33 6 974) _ _ _ _ _ _ 42 [(0, .ref B), (1, .int (nI (atp A).1))] [.null]
        refine V_astore_nZ (pc := 42) (ls' := [(0, _), (1, _), (2, _)]) dX11_law_42 (by decide) rfl ?_
        refine V_aload_nZ (pc := 43) dX11_law_43 rfl ?_
        refine V_ifnonnullN (pc := 44) dX11_law_44 ?_
        refine V_aload_n (pc := 47) dX11_law_47 rfl ?_
        refine V_bipush (pc := 48) (v := (-6)) dX11_law_48 (by decide) ?_
        refine V_callVd (pc := 50) (ci := 11) (c_X11_refuse (r := 6) h11 (by decide) (by decide) (by decide)) dX11_law_50 mlX11_112 mkX11_refuse rfl rfl h11.o ⟨by decide, rfl⟩ ⟨Nat.le_of_ble_eq_true rfl, Nat.le_of_ble_eq_true rfl⟩ (Nat.le_of_ble_eq_true rfl) ⟨Nat.le_of_ble_eq_true rfl, Nat.le_of_ble_eq_true rfl⟩ ?_
        refine V_iret (pc := 53) dX11_law_53 rfl (by first | decide | omega) (by first | decide | omega) ?_
        refine ⟨rfl, rfl, hR2.hrf, (hB2.u2 hb).u2 (by omega), Ext.rf, Nat.le_refl _, fun x x1 x2 => ?_⟩
        unfold rfuC; rw [up2_row (by omega), up2_row (by omega), hF x (by omega), up2_row (by omega)]
      · rw [hr] at g1; cases g1
    | some d =>
      rw [spLaw_s h6 hr]
      generalize rdR (atp A).2 (atp A).1 false = r0 at hC hr
      refine V_aload_n (pc := 0) dX11_law_0 rfl ?_
      refine V_getIE (pc := 1) 11 10 dX11_law_1 flX11_37 (by decide) h11.o (h10) ?_
      refine V_istore_n (pc := 4) (ls' := [(0, _), (1, _)]) dX11_law_4 (by decide) rfl ?_
      refine V_aload_n (pc := 5) dX11_law_5 rfl ?_
      refine V_iconst (pc := 6) (v := nI 0) dX11_law_6 (by decide) ?_
      refine V_putI (pc := 7) 11 10 dX11_law_7 flX11_37 (by decide) (by decide) (Or.inl rfl) rfl rfl h11.o ?_
      refine V_aload_n (pc := 10) dX11_law_10 rfl ?_
      refine V_getR (pc := 11) 11 0 dX11_law_11 flX11_91 (by decide) h11.o h11.R0 ?_
      refine V_getIE (pc := 14) 10 8 dX11_law_14 flX11_215 (by decide) h11.O0.o (e8) ?_
      refine V_bipush (pc := 17) (v := nI 6) dX11_law_17 (by decide) ?_
      refine V_icmp_ltN (pc := 19) (tgt := 29) dX11_law_19 (by decide) (by omega) (by omega) (fun c19 => ?_) (fun n19 => absurd n19 (by omega))
      refine V_aload_n (pc := 29) dX11_law_29 rfl ?_
      refine V_getR (pc := 30) 11 8 dX11_law_30 flX11_87 (by decide) h11.o h11.R8 ?_
      refine V_aload_n (pc := 33) dX11_law_33 rfl ?_
      refine V_getR (pc := 34) 11 9 dX11_law_34 flX11_33 (by decide) h11.o h11.R9 ?_
      refine V_iload_n (pc := 37) dX11_law_37 rfl ?_
      refine V_iconst (pc := 38) (v := nI 0) dX11_law_38 (by decide) ?_
      refine V_callV (pc := 39) (ci := 5) hC dX11_law_39 mlX11_218 mkX5_read rfl rfl h11.O8.o ⟨by decide, rfl⟩ ⟨Nat.le_of_ble_eq_true rfl, Nat.le_of_ble_eq_true rfl⟩ (Nat.le_of_ble_eq_true rfl) ⟨Nat.le_of_ble_eq_true rfl, Nat.le_of_ble_eq_true rfl⟩ (fun r S' I' L' hp => ?_)
      skip
      obtain ⟨rfl, hB2, hF, ⟨g1, _⟩ | ⟨d', g1, rfl, hS1, hE, h13, hT⟩⟩ := hp
      · rw [hr] at g1; cases g1
      have ed : d = d' := Option.some.inj (hr.symm.trans g1)
      subst ed
      have hT2 := hT.law
      have hEn : Ext E S S' (NT B) := hE.wk fun _ _ => trivial
      have h11' := h11.nt hEn
      have hin : ∀ x, inb E S x → S'.2.2 x = S.2.2 x := fun x hx => (hE x hx).2.2 trivial
      have hx : ∀ g, (g = B + 36 ∨ g = B + 50 ∨ g = B + 64) → S'.2.2 (g + 13) = S.2.2 (g + 13) := fun g hg => hin _ ⟨by have := h11.o.1.1; omega, by omega⟩
      have hR2 := hR.tp0.gr hEn hx (by omega) hF h13
      have e82 : I' (B + 36) 8 = nI (aq A 3) := hR2.1.2.2.2.2.2.2.1
      have hR3 := hR2.nl h11' (show aq A 3 < 6 by omega) hT2 (Or.inr hz)
      have hOt : isO E S' (eB E + S.1) 7 := by
        obtain ⟨_, c, t1, _⟩ := hT
        exact t1.o
      have hEn3 : Ext E S (S'.1, S'.2.1, up2 S'.2.2 (B + 49) (aq A 3) (some (eB E + S.1))) (NT B) := hEn.tr (Ext.uS.wk fun x hx => hx.1)
      have h10' := h11'.O0
      show V E kX11_law (rmOf 33 6 974) _ _ _ _ _ _ 42 [(0, .ref B), (1, .int (nI (atp A).1))] [.ref (eB E + S.1)]
      refine V_astore_n (pc := 42) (ls' := [(0, _), (1, _), (2, _)]) dX11_law_42 (by decide) rfl ?_
      refine V_aload_n (pc := 43) dX11_law_43 rfl ?_
      refine V_ifnonnull (pc := 44) (tgt := 54) dX11_law_44 (by decide) ?_
      refine V_aload_n (pc := 54) dX11_law_54 rfl ?_
      refine V_getR (pc := 55) 11 0 dX11_law_55 flX11_91 (by decide) h11'.o h11'.R0 ?_
      refine V_getIE (pc := 58) 10 8 dX11_law_58 flX11_215 (by decide) h11'.O0.o (e82) ?_
      refine V_istore_n (pc := 61) (ls' := [(0, _), (1, _), (2, _), (3, _)]) dX11_law_61 (by decide) rfl ?_
      refine V_aload_n (pc := 62) dX11_law_62 rfl ?_
      refine V_getR (pc := 63) 11 0 dX11_law_63 flX11_91 (by decide) h11'.o h11'.R0 ?_
      refine V_dup (pc := 66) dX11_law_66 rfl ?_
      refine V_getIE (pc := 67) 10 8 dX11_law_67 flX11_215 (by decide) h11'.O0.o (e82) ?_
      refine V_iconst (pc := 70) (v := nI 1) dX11_law_70 (by decide) ?_
      refine V_iaddN (pc := 71) dX11_law_71 ?_
      refine V_putI (pc := 72) 10 8 dX11_law_72 flX11_215 (by decide) (by decide) (Or.inl rfl) rfl rfl h11'.O0.o ?_
      refine V_aload_n (pc := 75) dX11_law_75 rfl ?_
      refine V_getR (pc := 76) 11 0 dX11_law_76 flX11_91 (by decide) h11'.o h11'.R0 ?_
      refine V_getR (pc := 79) 10 9 dX11_law_79 flX11_222 (by decide) h11'.O0.o h11'.O0.R9 ?_
      refine V_iload_n (pc := 82) dX11_law_82 rfl ?_
      refine V_aload_n (pc := 83) dX11_law_83 rfl ?_
      refine V_aastore (pc := 84) dX11_law_84 h10'.A9 (by first | decide | omega) (by omega) hOt (by decide) ?_
      have h11'' := h11.nt hEn3
      refine V_aload_n (pc := 85) dX11_law_85 rfl ?_
      refine V_iload_n (pc := 86) dX11_law_86 rfl ?_
      refine V_callVd (pc := 87) (ci := 11) (c_X11_grant (by first | assumption | omega | exact h11'')) dX11_law_87 mlX11_137 mkX11_grant rfl rfl h11''.o ⟨by decide, rfl⟩ ⟨Nat.le_of_ble_eq_true rfl, Nat.le_of_ble_eq_true rfl⟩ (Nat.le_of_ble_eq_true rfl) ⟨Nat.le_of_ble_eq_true rfl, Nat.le_of_ble_eq_true rfl⟩ ?_
      refine V_iret (pc := 90) dX11_law_90 rfl (by first | decide | omega) (by first | decide | omega) ?_
      refine ⟨rfl, rfl, hR3.hok, ?_, hEn3, by show S.1 ≤ S'.1; omega, fun x x1 x2 => ?_⟩
      · exact ((hB2.u2 (by omega)).uS (by omega)).u2 (by show _ < eB E + S'.1; omega)
      · rw [up2_row (by omega), up2_row (by omega), hF x (by omega), up2_row (by omega)]
end LA
