/-! THE READER: read -/
def CX1 (f4 f5 f6 : Nat → Int32) (od : Bool) (c : CT) (j : Nat) (x : RC4) : Prop := x.1 < 4 ∧ x.2.1 ≤ 20 ∧ x.2.2.1.length = sms od x.1 ∧ f4 j = nI x.1 ∧ f5 j = nI x.2.1 ∧ (∀ q, q < x.2.2.1.length → ∃ s e, f6 (j * 4 + q) = nI s ∧ SgC c.1 c.2.1 c.2.2 s e (x.2.2.1.getD q one)) ∧ (∀ q, x.2.2.1.length ≤ q → q < 3 → f6 (j * 4 + q) = -1) ∧ ((f6 (j * 4 + 3) = -1 ∧ x.2.2.2 = one) ∨ ∃ s e, f6 (j * 4 + 3) = nI s ∧ SgC c.1 c.2.1 c.2.2 s e x.2.2.2 ∧ TFo x.2.2.2)
theorem sms_le {od : Bool} {kd : Nat} : sms od kd ≤ 3 := by
  unfold sms
  cases od with
  | true =>
    rw [if_pos rfl]
    by_cases h0 : kd = 0
    · rw [if_pos h0]; omega
    · rw [if_neg h0]; split <;> omega
  | false => rw [if_neg (by decide)]; split <;> omega
theorem CX1.cg {f4 f5 f6 g4 g5 g6 : Nat → Int32} {od : Bool} {c c' : CT} {j : Nat} {x : RC4} (h : CX1 f4 f5 f6 od c j x) (h4 : g4 j = f4 j) (h5 : g5 j = f5 j) (h6 : ∀ q, q < 4 → g6 (j * 4 + q) = f6 (j * 4 + q)) (hc : c.2.2 ≤ c'.2.2) (hA : AG c.2.2 c' c) : CX1 g4 g5 g6 od c' j x := by
  obtain ⟨a1, a2, a3, a4, a5, a6, a7, a8⟩ := h
  have hl := sms_le (od := od) (kd := x.1)
  refine ⟨a1, a2, a3, h4.trans a4, h5.trans a5, fun q hq => ?_, fun q q1 q2 => (h6 q (by omega)).trans (a7 q q1 q2), ?_⟩
  · obtain ⟨s, e, b1, b2⟩ := a6 q hq
    exact ⟨s, e, (h6 q (by omega)).trans b1, b2.ag hc hA⟩
  · rcases a8 with ⟨b1, b2⟩ | ⟨s, e, b1, b2, b3⟩
    · exact Or.inl ⟨(h6 3 (by omega)).trans b1, b2⟩
    · exact Or.inr ⟨s, e, (h6 3 (by omega)).trans b1, b2.ag hc hA, b3⟩
def CXs (I : IT) (o : Nat) (od : Bool) (c : CT) (d : RdT) : Prop := ∀ j, j < d.1 → CX1 (I (o + 4)) (I (o + 5)) (I (o + 6)) od c j (d.2 j)
/-- a text as it lies -/
def TxG (E : EnT) (S : ST) (I : IT) (a : Nat) (od : Bool) (d : RdT) : Prop := d.1 ≤ 12 ∧ ∃ c : CT, Lay7 E S a d.1 c.2.2 ∧ c.2.2 ≤ 448 ∧ I a 0 = nI d.1 ∧ (∀ j, j < c.2.2 → I (a + 4) j = nI (itC (c.1 j)) ∧ I (a + 5) j = nI (c.2.1 j) ∧ opC (c.1 j) ∧ c.2.1 j ≤ 1000 ∧ (c.1 j = 1 → wdk od (c.2.1 j))) ∧ ∀ j, j < d.1 → CX1 (I (a + 1)) (I (a + 2)) (I (a + 3)) od c j (d.2 j)
def FGo (o : Nat) (I' I : IT) : Prop := ∀ x, (x < o ∨ o + 8 < x) → I' x = I x
def PRe (E : EnT) (S : ST) (I : IT) (L : LT) (o : Nat) (od : Bool) (r0 : Nat × Option RdT) (r : Option Value) (S' : ST) (I' : IT) (L' : LT) : Prop := L = L' ∧ BL E S' I' L ∧ (∀ x, (x < o ∨ (o + 8 < x ∧ x < eB E + S.1)) → I' x = I x) ∧ ((r0.2 = none ∧ r = some .null ∧ S = S' ∧ I' o 13 = nI r0.1) ∨ ∃ d, r0.2 = some d ∧ r = some (.ref (eB E + S.1)) ∧ S'.1 = S.1 + 6 ∧ Ext E S S' (fun _ => True) ∧ I' o 13 = -1 ∧ TxG E S' I' (eB E + S.1) od d)
section RD
variable {E : EnT} {S : ST} {I I0 I1 I2 : IT} {L : LT} {o a n m k l : Nat} {t : Nat → Nat} {od : Bool} {c : CT}
theorem FGo.rf : FGo o I I := fun _ _ => rfl
theorem FGo.tr (h : FGo o I2 I1) (g : FGo o I1 I) : FGo o I2 I := fun x hx => (h x hx).trans (g x hx)
theorem FGo.u {r i : Nat} {v : Int32} (h : FGo o I1 I) (hr : o ≤ r ∧ r ≤ o + 8) : FGo o (up2 I1 r i v) I := fun x hx => by rw [up2_row (by omega)]; exact h x hx
theorem FGo.ur {r : Nat} {f : Nat → Int32} (h : FGo o I1 I) (hr : o ≤ r ∧ r ≤ o + 8) : FGo o (upr I1 r f) I := fun x hx => by rw [upr_row (by omega)]; exact h x hx
theorem FrA5.g (h : FrA5 o I1 I) : FGo o I1 I := fun x hx => h.1 x (by omega) (by omega) (by omega) (by omega) (by omega) (by omega)
theorem FrS5.g (h : FrS5 o I1 I) : FGo o I1 I := fun x hx => h.1 x (by omega) (by omega) (by omega) (by omega)
theorem BL.g (h : BL E S I L) (g : FGo o I1 I) (ho : o + 8 < eB E + S.1) : BL E S I1 L := h.to (fun q hq => g q (by omega)) (fun _ _ => rfl)
theorem ScM.fa (h : ScM I o t n m) (g : FrA5 o I1 I) : ScM I1 o t n m := ⟨(g.2 3 (by omega) (by omega) (by omega)).trans h.1, h.2.1, h.2.2.1, h.2.2.2.1, fun j hj => ⟨by rw [g.1 (o + 1) (by omega) (by omega) (by omega) (by omega) (by omega) (by omega)]; exact (h.2.2.2.2.1 j hj).1, by rw [g.1 (o + 2) (by omega) (by omega) (by omega) (by omega) (by omega) (by omega)]; exact (h.2.2.2.2.1 j hj).2⟩, fun j hj => by rw [g.1 (o + 3) (by omega) (by omega) (by omega) (by omega) (by omega) (by omega)]; exact h.2.2.2.2.2 j hj⟩
theorem ScM.f13 {v : Int32} (h : ScM I o t n m) : ScM (up2 I o 13 v) o t n m := ⟨(up2_nej (by omega)).trans h.1, h.2.1, h.2.2.1, h.2.2.2.1, fun j hj => by rw [up2_row (by omega), up2_row (by omega)]; exact h.2.2.2.2.1 j hj, fun j hj => by rw [up2_row (by omega)]; exact h.2.2.2.2.2 j hj⟩
theorem Ext.tn {S1 S2 : ST} {P : Nat → Prop} (h : Ext E S S1 P) (g : Ext E S1 S2 (fun x => x ≠ a)) (ha : ¬ inb E S a) : Ext E S S2 P := fun x hx => ⟨(g x (h x hx).1).1, (g x (h x hx).1).2.1.trans (h x hx).2.1, fun hP => ((g x (h x hx).1).2.2 (fun e => ha (e ▸ hx))).trans ((h x hx).2.2 hP)⟩
theorem rd_end {v4 : Int32} {r0 : Nat × Option RdT} (h5 : Lay5 E S o) (hs : ScM I o t n m) (hk : k ≤ m) (h4 : I o 4 = nI k) (hr : r0.2 = none) (hr1 : pk t n k = r0.1) (hF : FGo o I I0) (hB : BL E S I0 L) : V E kX5_read (rmOf 32 6 974) (QM E (PRe E S I0 L o od r0) 6 974) 0 0 S I L 110 [(0, .ref o), (1, .ref a), (2, .int (nI n)), (3, .int (b2i od)), (4, .int v4)] [] := by
  have h400 := hs.2.2.1
  have e1 := (hs.2.2.2.2.1 k hk).1
  have hin := h5.A11.1.2
  refine V_aload_n (pc := 110) dX5_read_110 rfl ?_
  refine V_aload_n (pc := 111) dX5_read_111 rfl ?_
  refine V_getR (pc := 112) 5 0 dX5_read_112 flX5_13 (by decide) h5.o h5.R0 ?_
  refine V_aload_n (pc := 115) dX5_read_115 rfl ?_
  refine V_getIE (pc := 116) 5 4 dX5_read_116 flX5_27 (by decide) h5.o (h4) ?_
  refine V_ialoadE (pc := 119) dX5_read_119 h5.A0 (by first | decide | omega) (by omega) (e1) ?_
  refine V_putI (pc := 120) 5 13 dX5_read_120 flX5_55 (by decide) (by decide) (Or.inl rfl) rfl rfl h5.o ?_
  refine V_aconst_null (pc := 123) dX5_read_123 ?_
  refine V_aret (pc := 124) dX5_read_124 rfl (by simp) (by simp) (by first | decide | omega) (by first | decide | omega) ?_
  refine ⟨rfl, hB.g (hF.u (by omega)) (by omega), fun x hx => hF.u (by omega) x (by omega), Or.inl ⟨hr, rfl, rfl, ?_⟩⟩
  rw [up2_self, hr1]
theorem TI.lay {S1 : ST} (h : TI E S I L a o n m 5 S1 I1 L) (ha : isO E S a 7) : Lay7 E S1 a n m := by
  have h7 := h.2.2.2.2.2.2
  exact ⟨ha.ext h.2.2.1, (h7 1 (by omega) (by omega)).1, (h7 2 (by omega) (by omega)).1, (h7 3 (by omega) (by omega)).1, (h7 4 (by omega) (by omega)).1, (h7 5 (by omega) (by omega)).1, (h7 1 (by omega) (by omega)).2.1, (h7 2 (by omega) (by omega)).2.1, (h7 3 (by omega) (by omega)).2.1, (h7 4 (by omega) (by omega)).2.1, (h7 5 (by omega) (by omega)).2.1⟩
theorem TI.txg {S1 : ST} {d : RdT} (h : TI E S I L a o d.1 c.2.2 5 S1 I1 L) (ha : isO E S a 7) (hd : d.1 ≤ 12) (hR : RS I o t n m od k l c) (hX : CXs I o od c d) (hc : c.2.2 ≤ 448) : TxG E S1 I1 a od d := by
  have h7 := h.2.2.2.2.2.2
  refine ⟨hd, c, h.lay ha, hc, h.2.2.2.2.2.1, fun j hj => ?_, fun j hj => ?_⟩
  · rw [(h7 4 (by omega) (by omega)).2.2 j hj, (h7 5 (by omega) (by omega)).2.2 j hj]
    exact hR.2.2.2.2.2.2 j hj
  · exact (hX j hj).cg ((h7 1 (by omega) (by omega)).2.2 j hj) ((h7 2 (by omega) (by omega)).2.2 j hj) (fun q hq => (h7 3 (by omega) (by omega)).2.2 (j * 4 + q) (by show j * 4 + q < d.1 * 4; omega)) (Nat.le_refl _) (fun _ _ => ⟨rfl, rfl⟩)
theorem rd_lp (h5 : Lay5 E S o) (hb : ∀ i, i < n → t i < 256) (hn : n ≤ 400) (hB : BL E S I0 L) : ∀ (M j : Nat) (d : RdT) (k l : Nat) (c : CT) (I : IT) (r0 : Nat × Option RdT), M + j = 12 → d.1 = j → RS I o t n m od k l c → c.2.2 ≤ k + 4 * j → l ≤ 50 → FGo o I I0 → (∀ z, j * 4 ≤ z → z < 48 → I (o + 6) z = -1) → CXs I o od c d → rdP t n od M (pk t n k) l d = r0 → V E kX5_read (rmOf 32 6 974) (QM E (PRe E S I0 L o od r0) 6 974) 0 0 S I L 37 [(0, .ref o), (1, .ref a), (2, .int (nI n)), (3, .int (b2i od)), (4, .int (nI j))] [] := by
  intro M
  have hin := h5.A11.1.2
  induction M with
  | zero =>
    intro j d k l c I r0 hM hd hR hc hl hF hN hX hr
    rw [rdP_0] at hr
    subst hr
    have key := rd_end (E := E) (a := a) (od := od) (v4 := nI j) (r0 := (pk t n k, none)) h5 hR.1 hR.2.1 hR.2.2.1 rfl rfl hF hB
    refine V_iload (pc := 37) dX5_read_37 rfl ?_
    refine V_bipush (pc := 39) (v := nI 12) dX5_read_39 (by decide) ?_
    refine V_icmp_geN (pc := 41) (tgt := 110) dX5_read_41 (by decide) (by omega) (by omega) (fun c41 => ?_) (fun n41 => absurd n41 (by omega))
    exact key
  | succ M ih =>
    intro j d k l c I r0 hM hd hR hc hl hF hN hX hr
    have hC := c_X5_readClause (E := E) (L := L) (cl := j) (s := 4 * j) h5 hb hn (by omega) hR hc (by omega) hl
    cases hx : (rdC t n od (pk t n k) l).2.2 with
    | none =>
      rw [rdP_n hx] at hr
      subst hr
      generalize rdC t n od (pk t n k) l = rc at hC hx
      refine V_iload (pc := 37) dX5_read_37 rfl ?_
      refine V_bipush (pc := 39) (v := nI 12) dX5_read_39 (by decide) ?_
      refine V_icmp_geN (pc := 41) (tgt := 110) dX5_read_41 (by decide) (by omega) (by omega) (fun c41 => absurd c41 (by omega)) (fun n41 => ?_)
      refine V_aload_n (pc := 44) dX5_read_44 rfl ?_
      refine V_iload (pc := 45) dX5_read_45 rfl ?_
      refine V_callV (pc := 47) (ci := 5) hC dX5_read_47 mlX5_67 mkX5_readClause rfl rfl h5.o ⟨by decide, rfl⟩ ⟨Nat.le_of_ble_eq_true rfl, Nat.le_of_ble_eq_true rfl⟩ (Nat.le_of_ble_eq_true rfl) ⟨Nat.le_of_ble_eq_true rfl, Nat.le_of_ble_eq_true rfl⟩ (fun r S' I' L' hp => ?_)
      skip
      obtain ⟨rfl, rfl, hA, ⟨g1, rfl, k', k1, k2, k3⟩ | ⟨x, g1, _⟩⟩ := hp
      · have key := rd_end (E := E) (a := a) (od := od) (v4 := nI j) (r0 := (rc.1, none)) h5 (hR.1.fa hA) k1 k2 rfl k3 (hA.g.tr hF) hB
        refine V_if_neB (pc := 50) (tgt := 56) dX5_read_50 (by decide) (fun c50 => absurd c50 (by decide)) (fun n50 => ?_)
        refine V_goto (pc := 53) (tgt := 110) dX5_read_53 (by decide) ?_
        exact key
      · rw [hx] at g1; cases g1
    | some x =>
      rw [rdP_s hx] at hr
      generalize rdC t n od (pk t n k) l = rc at hC hx hr
      refine V_iload (pc := 37) dX5_read_37 rfl ?_
      refine V_bipush (pc := 39) (v := nI 12) dX5_read_39 (by decide) ?_
      refine V_icmp_geN (pc := 41) (tgt := 110) dX5_read_41 (by decide) (by omega) (by omega) (fun c41 => absurd c41 (by omega)) (fun n41 => ?_)
      refine V_aload_n (pc := 44) dX5_read_44 rfl ?_
      refine V_iload (pc := 45) dX5_read_45 rfl ?_
      refine V_callV (pc := 47) (ci := 5) hC dX5_read_47 mlX5_67 mkX5_readClause rfl rfl h5.o ⟨by decide, rfl⟩ ⟨Nat.le_of_ble_eq_true rfl, Nat.le_of_ble_eq_true rfl⟩ (Nat.le_of_ble_eq_true rfl) ⟨Nat.le_of_ble_eq_true rfl, Nat.le_of_ble_eq_true rfl⟩ (fun r S' I' L' hp => ?_)
      skip
      obtain ⟨rfl, rfl, hA, ⟨g1, _⟩ | ⟨y, g1, rfl, hl', hFC, x1, x2, x3, k', c', hR', q1, q2, q3, q4, q5, q6, q7, q8, q9, q10⟩⟩ := hp
      · rw [hx] at g1; cases g1
      have exy : x = y := Option.some.inj (hx.symm.trans g1)
      subst exy
      have hsl := sms_le (od := od) (kd := x.1)
      have hkm := hR'.2.1
      have h400 := hR'.1.2.2.1
      have h4 := hR'.2.2.1
      have htk := hR'.tk
      have hlt := tc_lt (n := n) hb (hR'.1.pn hkm)
      rw [← q1] at hr
      have hX' : CXs I' o od c' (addr d x) := by
        intro i hi
        have hi : i < d.1 + 1 := hi
        show CX1 _ _ _ od c' i (setf d.2 d.1 x i)
        by_cases e : i = d.1
        · subst e
          rw [setf_s]
          rw [hd]
          refine ⟨x1, x2, x3, q6, q7, q8, fun q z1 z2 => (q9 q z1 z2).trans (hN _ (by omega) (by omega)), ?_⟩
          rcases q10 with ⟨b1, b2⟩ | b1
          · exact Or.inl ⟨b1.trans (hN _ (by omega) (by omega)), b2⟩
          · exact Or.inr b1
        · rw [setf_n e]
          exact (hX i (by omega)).cg (hFC.2.2.1 i (by omega)).1 (hFC.2.2.1 i (by omega)).2 (fun q hq => hFC.2.2.2 _ (by omega)) q3 q4
      have hF' := hA.g.tr hF
      have hd' : (addr d x).1 = j + 1 := by show d.1 + 1 = _; omega
      by_cases h92 : tc t n (pk t n k') = 92
      · rw [if_neg (by omega), if_pos h92] at hr
        subst hr
        have hBn : BL E S (up2 I' o 13 (-1)) L := hB.g (hF'.u (by omega)) (by omega)
        have hf := hBn.fr
        have hR2 : RS (up2 I' o 13 (-1)) o t n m od k' rc.2.1 c' := by
          obtain ⟨s1, s2, s3, s4, s5, s6, s7⟩ := hR'
          exact ⟨s1.f13, s2, (up2_nej (by omega)).trans s3, (up2_nej (by omega)).trans s4, (up2_nej (by omega)).trans s5, (up2_nej (by omega)).trans s6, fun z hz => by rw [up2_row (by omega), up2_row (by omega)]; exact s7 z hz⟩
        have hX2 : CXs (up2 I' o 13 (-1)) o od c' (addr d x) := fun i hi => by
          rw [up2_row (by omega), up2_row (by omega), up2_row (by omega)]; exact hX' i hi
        have h5n : Lay5 E (psh E S 7 0) o := h5.ext (P := fun _ => True) Ext.pu trivial
        have hOn : isO E (psh E S 7 0) (eB E + S.1) 7 := isO_psh
        have hcn := c_X7_init (E := E) (n := j + 1) (m := c'.2.2) h5n hOn (show eB E + S.1 + 1 = eB E + (S.1 + 1) by omega) (by omega) (by omega) (by omega) hR2.2.2.2.2.2.1 hBn.pu
        refine V_if_neB (pc := 50) (tgt := 56) dX5_read_50 (by decide) (fun c50 => ?_) (fun n50 => absurd n50 (by decide))
        refine V_aload_n (pc := 56) dX5_read_56 rfl ?_
        refine V_getR (pc := 57) 5 1 dX5_read_57 flX5_17 (by decide) h5.o h5.R1 ?_
        refine V_aload_n (pc := 60) dX5_read_60 rfl ?_
        refine V_getIE (pc := 61) 5 4 dX5_read_61 flX5_27 (by decide) h5.o (h4) ?_
        refine V_ialoadE (pc := 64) dX5_read_64 h5.A1 (by first | decide | omega) (by omega) (htk) ?_
        refine V_bipush (pc := 65) (v := nI 92) dX5_read_65 (by decide) ?_
        refine V_icmp_neN (pc := 67) (tgt := 88) dX5_read_67 (by decide) (by omega) (by omega) (fun c67 => absurd c67 (by omega)) (fun n67 => ?_)
        refine V_aload_n (pc := 70) dX5_read_70 rfl ?_
        refine V_iconst (pc := 71) (v := (-1)) dX5_read_71 (by decide) ?_
        refine V_putI (pc := 72) 5 13 dX5_read_72 flX5_55 (by decide) (by decide) (Or.inl rfl) rfl rfl h5.o ?_
        refine V_new (pc := 75) 7 dX5_read_75 clX5_3 it7 iz7 (by decide) (by decide) (by assumption) (by first | decide | omega) (by first | decide | omega) ?_
        refine V_dup (pc := 78) dX5_read_78 rfl ?_
        refine V_iload (pc := 79) dX5_read_79 rfl ?_
        refine V_iconst (pc := 81) (v := nI 1) dX5_read_81 (by decide) ?_
        refine V_iaddN (pc := 82) dX5_read_82 ?_
        refine V_aload_n (pc := 83) dX5_read_83 rfl ?_
        refine V_callI (pc := 84) hcn dX5_read_84 mlX5_71 mkX7_init rfl rfl ⟨Nat.le_of_ble_eq_true rfl, Nat.le_of_ble_eq_true rfl⟩ (Nat.le_of_ble_eq_true rfl) ⟨Nat.le_of_ble_eq_true rfl, Nat.le_of_ble_eq_true rfl⟩ (fun r S' I' L' hp => ?_)
        obtain ⟨rfl, hT⟩ := hp
        refine V_aret (pc := 87) dX5_read_87 rfl (by simp) (by simp) (by first | decide | omega) (by first | decide | omega) ?_
        have hT2 := hT
        obtain ⟨w1, rfl, w3, w4, w5, w6, w7⟩ := hT
        refine ⟨rfl, w4, fun z hz => ?_, Or.inr ⟨addr d x, rfl, rfl, ?_, Ext.tn Ext.pu w3 (fun z => by have := z.2; omega), ?_, ?_⟩⟩
        · rw [w5 z (by omega)]; exact hF'.u (by omega) z (by omega)
        · rw [w1]; rfl
        · rw [w5 o (by omega), up2_self]
        · rw [← hd'] at hT2
          exact hT2.txg hOn (by omega) hR2 hX2 (by omega)
      · by_cases h159 : tc t n (pk t n k') = 159
        · rw [if_pos h159] at hr
          have hk := hR'.lt (by omega)
          have key := ih (j + 1) (addr d x) (k' + 1) rc.2.1 c' (up2 I' o 4 (nI (k' + 1))) r0 (by omega) hd' (hR'.go hk) (by omega) hl' (hF'.u (by omega)) (fun z z1 z2 => by rw [up2_row (by omega), hFC.2.2.2 z (by omega)]; exact hN z (by omega) z2) (fun i hi => by rw [up2_row (by omega), up2_row (by omega), up2_row (by omega)]; exact hX' i hi) hr
          refine V_if_neB (pc := 50) (tgt := 56) dX5_read_50 (by decide) (fun c50 => ?_) (fun n50 => absurd n50 (by decide))
          refine V_aload_n (pc := 56) dX5_read_56 rfl ?_
          refine V_getR (pc := 57) 5 1 dX5_read_57 flX5_17 (by decide) h5.o h5.R1 ?_
          refine V_aload_n (pc := 60) dX5_read_60 rfl ?_
          refine V_getIE (pc := 61) 5 4 dX5_read_61 flX5_27 (by decide) h5.o (h4) ?_
          refine V_ialoadE (pc := 64) dX5_read_64 h5.A1 (by first | decide | omega) (by omega) (htk) ?_
          refine V_bipush (pc := 65) (v := nI 92) dX5_read_65 (by decide) ?_
          refine V_icmp_neN (pc := 67) (tgt := 88) dX5_read_67 (by decide) (by omega) (by omega) (fun c67 => ?_) (fun n67 => absurd n67 (by omega))
          refine V_aload_n (pc := 88) dX5_read_88 rfl ?_
          refine V_bipush (pc := 89) (v := nI 59) dX5_read_89 (by decide) ?_
          refine V_callVd (pc := 91) (ci := 5) (c_X5_isSign (x := 59) h5 hR' hb (by omega)) dX5_read_91 mlX5_74 mkX5_isSign rfl rfl h5.o ⟨by decide, rfl⟩ ⟨Nat.le_of_ble_eq_true rfl, Nat.le_of_ble_eq_true rfl⟩ (Nat.le_of_ble_eq_true rfl) ⟨Nat.le_of_ble_eq_true rfl, Nat.le_of_ble_eq_true rfl⟩ ?_
          refine V_if_neB (pc := 94) (tgt := 100) dX5_read_94 (by decide) (fun c94 => ?_) (fun n94 => absurd n94 (by simp [h159]))
          refine V_aload_n (pc := 100) dX5_read_100 rfl ?_
          refine V_callVn (pc := 101) (ci := 5) (c_X5_goOn h5 hR' hk) dX5_read_101 mlX5_78 mkX5_goOn rfl rfl h5.o ⟨by decide, rfl⟩ ⟨Nat.le_of_ble_eq_true rfl, Nat.le_of_ble_eq_true rfl⟩ (Nat.le_of_ble_eq_true rfl) ⟨Nat.le_of_ble_eq_true rfl, Nat.le_of_ble_eq_true rfl⟩ ?_
          refine V_iinc1 (pc := 104) (ls' := [(0, _), (1, _), (2, _), (3, _), (4, _)]) dX5_read_104 rfl (by decide) rfl ?_
          refine V_goto (pc := 107) (tgt := 37) dX5_read_107 (by decide) ?_
          exact key
        · rw [if_neg h159, if_neg h92] at hr
          subst hr
          have key := rd_end (E := E) (a := a) (od := od) (v4 := nI j) (r0 := (pk t n k', none)) h5 hR'.1 hkm h4 rfl rfl hF' hB
          refine V_if_neB (pc := 50) (tgt := 56) dX5_read_50 (by decide) (fun c50 => ?_) (fun n50 => absurd n50 (by decide))
          refine V_aload_n (pc := 56) dX5_read_56 rfl ?_
          refine V_getR (pc := 57) 5 1 dX5_read_57 flX5_17 (by decide) h5.o h5.R1 ?_
          refine V_aload_n (pc := 60) dX5_read_60 rfl ?_
          refine V_getIE (pc := 61) 5 4 dX5_read_61 flX5_27 (by decide) h5.o (h4) ?_
          refine V_ialoadE (pc := 64) dX5_read_64 h5.A1 (by first | decide | omega) (by omega) (htk) ?_
          refine V_bipush (pc := 65) (v := nI 92) dX5_read_65 (by decide) ?_
          refine V_icmp_neN (pc := 67) (tgt := 88) dX5_read_67 (by decide) (by omega) (by omega) (fun c67 => ?_) (fun n67 => absurd n67 (by omega))
          refine V_aload_n (pc := 88) dX5_read_88 rfl ?_
          refine V_bipush (pc := 89) (v := nI 59) dX5_read_89 (by decide) ?_
          refine V_callVd (pc := 91) (ci := 5) (c_X5_isSign (x := 59) h5 hR' hb (by omega)) dX5_read_91 mlX5_74 mkX5_isSign rfl rfl h5.o ⟨by decide, rfl⟩ ⟨Nat.le_of_ble_eq_true rfl, Nat.le_of_ble_eq_true rfl⟩ (Nat.le_of_ble_eq_true rfl) ⟨Nat.le_of_ble_eq_true rfl, Nat.le_of_ble_eq_true rfl⟩ ?_
          refine V_if_neB (pc := 94) (tgt := 100) dX5_read_94 (by decide) (fun c94 => absurd c94 (by simp [h159])) (fun n94 => ?_)
          refine V_goto (pc := 97) (tgt := 110) dX5_read_97 (by decide) ?_
          exact key
end RD
