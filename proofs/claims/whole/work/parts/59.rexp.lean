/-! THE REFERENCE reads an expression -/
section PI
variable {E : EnT} {S : ST} {I I0 : IT} {L L0 : LT} {o n p l d : Nat} {t : Nat → Nat} {P : List (Nat × Nat)} {c : CT} {b : Option Nat} {od : Bool}
theorem PS.clear (h : PS o t n I0 L0 I L b (p, l, d, P, c)) : PS o t n I0 L0 (up2 (up2 I o 29 (nI 0)) o 30 (nI 0)) L b (p, l, 0, [], c) := by
  obtain ⟨h1, h2, h3, h4, h5, h6, h7, h8, h9⟩ := h
  have f : ∀ i, i ≠ 29 → i ≠ 30 → up2 (up2 I o 29 (nI 0)) o 30 (nI 0) o i = I o i := fun i a1 a2 => by rw [up2_nej a2, up2_nej a1]
  have g : ∀ a, a ≠ o → up2 (up2 I o 29 (nI 0)) o 30 (nI 0) a = I a := fun a a1 => by rw [up2_row a1, up2_row a1]
  refine ⟨h1.cg (g _ (by omega)) fun i h1 h2 => f i (by omega) (by omega), (f _ (by omega) (by omega)).trans h2, up2_self, ?_, trivial, ⟨(f _ (by omega) (by omega)).trans h6.1, fun k hk => ?_⟩, (f _ (by omega) (by omega)).trans h7, (f _ (by omega) (by omega)).trans h8, (h9.upo (by omega)).upo (by omega)⟩
  · rw [up2_nej (by omega), up2_self]; rfl
  · rw [g _ (by omega), g _ (by omega)]; exact h6.2 k hk
theorem xsE (h12 : Lay12 E S o) {te : Bool} {tn : Nat} {post : Option Value → ST → IT → LT → Prop} (h : PS o t n I0 L0 I L b (p, l, d, P, c)) (hb : BD 400 P c) (htn : tn ≤ 4) (hx : b.isSome = true ∨ tn = 4) (hk : ∀ I' L', PS o t n I0 L0 I' L' b (p, l, d, (sto 1 P c).1, (sto 1 P c).2) → post none S I' L') : VX E (QM E post 0 0) S o te I L tn := by
  have h19 : I o 19 = b2i b.isSome := h.2.2.2.2.2.2.1
  have fin : ∀ (_ : Nat), V E kX12_readExpression (rmOf 6 0 0) (QM E post 0 0) 0 0 S I L 76 [(0, .ref o), (1, .int (b2i te)), (2, .int (nI tn))] [] := by
    intro _
    refine V_aload_n (pc := 76) dX12_readExpression_76 rfl ?_
    refine V_iconst (pc := 77) (v := nI 1) dX12_readExpression_77 (by decide) ?_
    refine V_callV (pc := 78) (ci := 12) (c_X12_settle h12 (by omega) h hb.1 hb.2.1 hb.2.2) dX12_readExpression_78 mlX12_377 mkX12_settle rfl rfl h12.o ⟨by decide, rfl⟩ ⟨Nat.le_of_ble_eq_true rfl, Nat.le_of_ble_eq_true rfl⟩ (Nat.le_of_ble_eq_true rfl) ⟨Nat.le_of_ble_eq_true rfl, Nat.le_of_ble_eq_true rfl⟩ (fun r S' I' L' hp => ?_)
    obtain ⟨rfl, rfl, rfl, hP⟩ := hp
    refine V_vret (pc := 81) dX12_readExpression_81 rfl (by first | decide | omega) (by first | decide | omega) ?_
    exact hk _ _ hP
  cases hbs : b.isSome with
  | true =>
    rw [hbs] at h19
    refine V_aload_n (pc := 20) dX12_readExpression_20 rfl ?_
    refine V_getIE (pc := 21) 12 19 dX12_readExpression_21 flX12_275 (by decide) h12.o (h19) ?_
    refine V_if_neB (pc := 24) (tgt := 76) dX12_readExpression_24 (by decide) (fun c24 => ?_) (fun n24 => absurd n24 (by decide))
    exact fin 0
  | false =>
    rw [hbs] at h19
    have h4 : tn = 4 := hx.resolve_left (by rw [hbs]; decide)
    refine V_aload_n (pc := 20) dX12_readExpression_20 rfl ?_
    refine V_getIE (pc := 21) 12 19 dX12_readExpression_21 flX12_275 (by decide) h12.o (h19) ?_
    refine V_if_neB (pc := 24) (tgt := 76) dX12_readExpression_24 (by decide) (fun c24 => absurd c24 (by decide)) (fun n24 => ?_)
    refine V_iload_n (pc := 27) dX12_readExpression_27 rfl ?_
    refine V_iconst (pc := 28) (v := nI 4) dX12_readExpression_28 (by decide) ?_
    refine V_icmp_eqN (pc := 29) (tgt := 76) dX12_readExpression_29 (by decide) (by omega) (by omega) (fun c29 => ?_) (fun n29 => absurd n29 (by omega))
    exact fin 0
def FU (n : Nat) : Nat := 8 * n + 8
/-- what reading an expression leaves -/
def RX (o : Nat) (t : Nat → Nat) (n : Nat) (I0 : IT) (L0 : LT) (od : Bool) (l : Nat) (c : CT) (r : PR) (tst : Bool) (I' : IT) (L' : LT) : Prop :=
  (r.2.2 = none → ∃ s, PS o t n I0 L0 I' L' (some r.1) s) ∧ (∀ G, r.2.2 = some G → ∃ c' m, PS o t n I0 L0 I' L' none (r.1, r.2.1, 0, [], c') ∧ c'.2.2 ≤ r.1 ∧ r.2.1 ≤ 50 ∧ CG c' ∧ c.2.2 < c'.2.2 ∧ AG c.2.2 c' c ∧ Rn (lfA od) c'.1 c'.2.1 c.2.2 c'.2.2 m G ∧ m + l ≤ r.2.1 ∧ (tst = true → TFo G))
theorem c_X12_rexp_sum (h12 : Lay12 E S o) (hod : I0 o 20 = b2i od) (hK : KL L0 o) (h : PS o t n I0 L0 I L none (p, l, d, P, c)) (hc : c.2.2 ≤ p) (hl : l ≤ 50) (hG : CG c) (F : SF) : C E kX12_readExpression 6 0 0 [.ref o, .int (b2i false)] S I L (fun rr S' I' L' => rr = none ∧ S = S' ∧ RX o t n I0 L0 od l c (ps t n od (FU n) 0 0 p l F) false I' L') := by
  have hc1 := h.clear
  have ho := h12.o
  have hpn := h.n400
  refine C_of (by decide) (Nat.le_of_ble_eq_true rfl) ?_
  generalize hr : ps t n od (FU n) 0 0 p l F = r
  refine V_aload_n (pc := 0) dX12_readExpression_0 rfl ?_
  refine V_iconst (pc := 1) (v := nI 0) dX12_readExpression_1 (by decide) ?_
  refine V_putI (pc := 2) 12 29 dX12_readExpression_2 flX12_315 (by decide) (by decide) (Or.inl rfl) rfl rfl h12.o ?_
  refine V_aload_n (pc := 5) dX12_readExpression_5 rfl ?_
  refine V_iconst (pc := 6) (v := nI 0) dX12_readExpression_6 (by decide) ?_
  refine V_putI (pc := 7) 12 30 dX12_readExpression_7 flX12_335 (by decide) (by decide) (Or.inl rfl) rfl rfl h12.o ?_
  refine V_iload_n (pc := 10) dX12_readExpression_10 rfl ?_
  refine V_if_eqB (pc := 11) (tgt := 18) dX12_readExpression_11 (by decide) (fun c11 => ?_) (fun n11 => absurd n11 (by decide))
  refine V_iconst (pc := 18) (v := nI 1) dX12_readExpression_18 (by decide) ?_
  refine V_istore_n (pc := 19) (ls' := [(0, _), (1, _), (2, _)]) dX12_readExpression_19 (by decide) rfl ?_
  refine (clS_all (te := false) h12 hod hK (FU n)).1.1 0 p l F [] c _ L 1 (Or.inl rfl) ?_ ⟨hc1, ⟨Nat.zero_le _, hc, fun x hx => by cases hx⟩, hl, Nat.zero_le _, hG⟩ trivial r hr.symm ?_ ?_
  · show 3 + 8 * (n - p) ≤ FU n; unfold FU; omega
  · intro hn I' L' s tn hP hB ht
    obtain ⟨p', l', d', P', c'⟩ := s
    exact xsE h12 hP hB ht (Or.inl rfl) (fun I2 L2 hP2 => ⟨rfl, rfl, fun _ => ⟨_, hP2⟩, fun G hG2 => by rw [hn] at hG2; cases hG2⟩)
  · intro G hG2 hX I' L' c' U m hI hs hA hQ hP hm
    have hpn2 : r.1 ≤ n := hI.1.n400.2
    have hB : BD r.1 (U ++ []) c' := hI.2.1
    refine xs3 h12 hI.1 (c_X12_behindSum_end h12 hI.1 hX (hB.up (by omega)) (by rw [inr_app hQ]; rfl)) ?_
    intro r0 S3 I3 L3 hp3
    obtain ⟨j3, j4, j5⟩ := hp3
    refine ⟨4, j3, j4, ?_⟩
    have hst := sto_app (k := 1) (P := []) (c := c') trivial (hQ.w (by omega) (Nat.le_refl _))
    refine xsE h12 j5 (hB.up (by omega)) (by omega) (Or.inr rfl) (fun I2 L2 hP2 => ?_)
    have hBs := BD.st (k := 1) hB
    have hCs := CG.st (k := 1) (by omega) (by omega) hI.2.2.2.2 hB
    rw [hst] at hP2 hBs hCs
    have hlow := emQ_low (m := c.2.2) hQ (Nat.le_refl _) hs
    have hRn : Rn (lfA od) (emQ U c').1 (emQ U c').2.1 c.2.2 (emQ U c').2.2 m G := hP
    refine ⟨rfl, rfl, (fun z => by rw [hG2] at z; cases z), fun G2 hG3 => ?_⟩
    rw [hG2] at hG3
    cases hG3
    exact ⟨emQ U c', m, hP2, by have h1 : (emQ U c').2.2 + 0 ≤ r.1 := hBs.1.2.1; omega, hI.2.2.1, hCs, hRn.1, AG.tr (fun k hk => hlow.2 k hk) hA, hRn, hm, fun z => by cases z⟩
theorem c_X12_rexp_test (h12 : Lay12 E S o) (hod : I0 o 20 = b2i od) (hK : KL L0 o) (h : PS o t n I0 L0 I L none (p, l, d, P, c)) (hc : c.2.2 ≤ p) (hl : l ≤ 50) (hG : CG c) (F : SF) : C E kX12_readExpression 6 0 0 [.ref o, .int (b2i true)] S I L (fun rr S' I' L' => rr = none ∧ S = S' ∧ RX o t n I0 L0 od l c (ps t n od (FU n) 3 0 p l F) true I' L') := by
  have hc1 := h.clear
  have ho := h12.o
  have hpn := h.n400
  refine C_of (by decide) (Nat.le_of_ble_eq_true rfl) ?_
  generalize hr : ps t n od (FU n) 3 0 p l F = r
  refine V_aload_n (pc := 0) dX12_readExpression_0 rfl ?_
  refine V_iconst (pc := 1) (v := nI 0) dX12_readExpression_1 (by decide) ?_
  refine V_putI (pc := 2) 12 29 dX12_readExpression_2 flX12_315 (by decide) (by decide) (Or.inl rfl) rfl rfl h12.o ?_
  refine V_aload_n (pc := 5) dX12_readExpression_5 rfl ?_
  refine V_iconst (pc := 6) (v := nI 0) dX12_readExpression_6 (by decide) ?_
  refine V_putI (pc := 7) 12 30 dX12_readExpression_7 flX12_335 (by decide) (by decide) (Or.inl rfl) rfl rfl h12.o ?_
  refine V_iload_n (pc := 10) dX12_readExpression_10 rfl ?_
  refine V_if_eqB (pc := 11) (tgt := 18) dX12_readExpression_11 (by decide) (fun c11 => absurd c11 (by decide)) (fun n11 => ?_)
  refine V_iconst (pc := 14) (v := nI 0) dX12_readExpression_14 (by decide) ?_
  refine V_goto (pc := 15) (tgt := 19) dX12_readExpression_15 (by decide) ?_
  refine V_istore_n (pc := 19) (ls' := [(0, _), (1, _), (2, _)]) dX12_readExpression_19 (by decide) rfl ?_
  refine (clU_all h12 hod hK (FU n)).1.1 0 p l F [] c _ L ?_ ⟨hc1, ⟨Nat.zero_le _, hc, fun x hx => by cases hx⟩, hl, Nat.zero_le _, hG⟩ trivial (by show (0 : Nat) ≠ 33; omega) r hr.symm ?_ ?_
  · show 6 + 8 * (n - p) ≤ FU n; unfold FU; omega
  · intro hn I' L' s tn hP hB ht
    obtain ⟨p', l', d', P', c'⟩ := s
    exact xsE h12 hP hB ht (Or.inl rfl) (fun I2 L2 hP2 => ⟨rfl, rfl, fun _ => ⟨_, hP2⟩, fun G hG2 => by rw [hn] at hG2; cases hG2⟩)
  · intro G hG2 hX I' L' c' U m hI hs hA hQ hP hm
    have hpn2 : r.1 ≤ n := hI.1.n400.2
    have hB : BD r.1 (U ++ []) c' := hI.2.1
    refine xs2 h12 hI.1 (c_X12_behindTest_end h12 hI.1 hX.1.1 hX.1.2 (hB.up (by omega)) (by rw [inr_app hQ]; rfl)) ?_
    intro r0 S3 I3 L3 hp3
    obtain ⟨j3, j4, j5⟩ := hp3
    refine ⟨4, j3, j4, ?_⟩
    have hst := sto_app (k := 1) (P := []) (c := c') trivial hQ
    refine xsE h12 j5 (hB.up (by omega)) (by omega) (Or.inr rfl) (fun I2 L2 hP2 => ?_)
    have hBs := BD.st (k := 1) hB
    have hCs := CG.st (k := 1) (by omega) (by omega) hI.2.2.2.2 hB
    rw [hst] at hP2 hBs hCs
    have hlow := emQ_low (m := c.2.2) hQ (Nat.le_refl _) hs
    have hRn : Rn (lfA od) (emQ U c').1 (emQ U c').2.1 c.2.2 (emQ U c').2.2 m G := hP
    refine ⟨rfl, rfl, (fun z => by rw [hG2] at z; cases z), fun G2 hG3 => ?_⟩
    rw [hG2] at hG3
    cases hG3
    exact ⟨emQ U c', m, hP2, by have h1 : (emQ U c').2.2 + 0 ≤ r.1 := hBs.1.2.1; omega, hI.2.2.1, hCs, hRn.1, AG.tr (fun k hk => hlow.2 k hk) hA, hRn, hm, fun _ => hX.2⟩
end PI
