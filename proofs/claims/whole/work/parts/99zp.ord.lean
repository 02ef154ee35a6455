/-! THE CLASS: orders -/
section OC
variable {E : EnT} {S : ST} {I I0 : IT} {L : LT} {B a n : Nat} {A A0 : AT} {d : RdT} {Q : QT}
theorem CR.sst {v : Int32} (h : CR E S B I A) : CR E S B (up2 I B 12 v) (sst A v) := by
  obtain ⟨x1, x2, x3, x4, x5⟩ := h.2.2.2.2.2.1
  exact h.tx (fun x h1 _ _ => up2_row h1) (up2_nej (by omega)) ⟨(up2_nej (by omega)).trans x1, (up2_ne (by omega)).trans x2, up2_self, (up2_nej (by omega)).trans x4, fun r hr => by rw [up2_row (by omega)]; exact x5 r hr⟩
/-- while orders run -/
def ORC (E : EnT) (S : ST) (B : Nat) (I0 : IT) (A0 : AT) (a : Nat) (d : RdT) (s : RT) (I : IT) : Prop := CR E S B I s.1 ∧ wfA s.1 ∧ SmO s.1 A0 ∧ I (B + 82) 7 = nI s.2.1 ∧ I (B + 82) 8 = pred1 s.2.2 ∧ s.2.2 ≤ 1001 ∧ AhM I B A0 ∧ TxG E S I a true d ∧ ∀ x, B + 329 ≤ x → I x = I0 x
/-- they can't be -/
def ORX (E : EnT) (S : ST) (B : Nat) (I0 : IT) (A0 : AT) (I : IT) : Prop := ∃ A2, CR E S B I A2 ∧ SmO A2 A0 ∧ AhM I B A0 ∧ ∀ x, B + 329 ≤ x → I x = I0 x
theorem AhM.fn {I' : IT} (h : AhM I B A) (f : FrN B I' I) : AhM I' B A := h.cg fun x x1 x2 => f x (by omega) (by omega) (by omega) (by omega)
theorem lp_ot {k : Nat} (h11 : Lay11 E S B) (ha : B + 365 ≤ a) (hk : k < d.1) : ∀ (m t : Nat) (s : RT) (I : IT), t + m = (d.2 k).2.1 → (d.2 k).2.1 ≤ 20 → s.2.1 ≤ 20 * k + t → ORC E S B I0 A0 a d s I →
    (rnT (toO (d.2 k)) m s = none → ∀ I' t', ORX E S B I0 A0 I' → V E kX11_orders (rmOf 33 6 974) Q (0 + 6) (0 + 974) S I' L 83 [(0, .ref B), (1, .int (nI n)), (2, .ref a), (3, .int (nI k)), (4, .int (nI t'))] []) →
    (∀ s', rnT (toO (d.2 k)) m s = some s' → s'.2.1 ≤ 20 * (k + 1) → ∀ I' t', ORC E S B I0 A0 a d s' I' → V E kX11_orders (rmOf 33 6 974) Q (0 + 6) (0 + 974) S I' L 108 [(0, .ref B), (1, .int (nI n)), (2, .ref a), (3, .int (nI k)), (4, .int (nI t'))] []) →
    V E kX11_orders (rmOf 33 6 974) Q (0 + 6) (0 + 974) S I L 60 [(0, .ref B), (1, .int (nI n)), (2, .ref a), (3, .int (nI k)), (4, .int (nI t))] [] := by
  intro m
  induction m with
  | zero =>
    intro t s I ht h20 hs hO hb hg
    have hT := hO.2.2.2.2.2.2.2.1
    have hd12 := hT.1
    obtain ⟨c, hl7, _, _, _, h5⟩ := hT.2
    have h9 := (h5 k hk).2.2.2.2.1
    refine V_iload (pc := 60) dX11_orders_60 rfl ?_
    refine V_aload_n (pc := 62) dX11_orders_62 rfl ?_
    refine V_getR (pc := 63) 7 2 dX11_orders_63 flX11_232 (by decide) hl7.o hl7.R2 ?_
    refine V_iload_n (pc := 66) dX11_orders_66 rfl ?_
    refine V_ialoadE (pc := 67) dX11_orders_67 hl7.A2 (by first | decide | omega) (by omega) (h9) ?_
    refine V_icmp_geN (pc := 68) (tgt := 108) dX11_orders_68 (by decide) (by omega) (by omega) (fun c68 => ?_) (fun n68 => absurd n68 (by omega))
    exact hg s rfl (by omega) I t hO
  | succ m ih =>
    intro t s I ht h20 hs hO hb hg
    obtain ⟨o1, o2, o3, o4, o5, o6, o7, o8, o9⟩ := hO
    have hd12 := o8.1
    obtain ⟨c, hl7, _, _, _, h5⟩ := o8.2
    have h9 := (h5 k hk).2.2.2.2.1
    have hC := c_X0_runOnce (L := L) h11 o1 o2 o4 o5 (by omega) o6 o8 ha hk
    cases hr : rn1 (toO (d.2 k)) s with
    | none =>
      rw [rnT_n hr] at hb
      refine V_iload (pc := 60) dX11_orders_60 rfl ?_
      refine V_aload_n (pc := 62) dX11_orders_62 rfl ?_
      refine V_getR (pc := 63) 7 2 dX11_orders_63 flX11_232 (by decide) hl7.o hl7.R2 ?_
      refine V_iload_n (pc := 66) dX11_orders_66 rfl ?_
      refine V_ialoadE (pc := 67) dX11_orders_67 hl7.A2 (by first | decide | omega) (by omega) (h9) ?_
      refine V_icmp_geN (pc := 68) (tgt := 108) dX11_orders_68 (by decide) (by omega) (by omega) (fun c68 => absurd c68 (by omega)) (fun n68 => ?_)
      refine V_aload_n (pc := 71) dX11_orders_71 rfl ?_
      refine V_getR (pc := 72) 11 4 dX11_orders_72 flX11_99 (by decide) h11.o h11.R4 ?_
      refine V_aload_n (pc := 75) dX11_orders_75 rfl ?_
      refine V_iload_n (pc := 76) dX11_orders_76 rfl ?_
      refine V_callV (pc := 77) (ci := 0) hC dX11_orders_77 mlX11_235 mkX0_runOnce rfl rfl h11.O4.o ⟨by decide, rfl⟩ ⟨Nat.le_of_ble_eq_true rfl, Nat.le_of_ble_eq_true rfl⟩ (Nat.le_of_ble_eq_true rfl) ⟨Nat.le_of_ble_eq_true rfl, Nat.le_of_ble_eq_true rfl⟩ (fun r S' I' L' hp => ?_)
      obtain ⟨rfl, rfl, hF, hN, _⟩ := hp
      obtain ⟨rfl, hR2⟩ := hN hr
      skip
      refine V_if_neB (pc := 80) (tgt := 102) dX11_orders_80 (by decide) (fun c80 => absurd c80 (by decide)) (fun n80 => ?_)
      exact hb rfl _ t ⟨s.1, hR2, o3, o7.fn hF, fun x hx => by rw [hF x (by omega) (by omega) (by omega) (by omega)]; exact o9 x hx⟩
    | some s' =>
      rw [rnT_s hr] at hb hg
      obtain ⟨w1, w2, w3, w4⟩ := rn1_k o2 o6 hr
      refine V_iload (pc := 60) dX11_orders_60 rfl ?_
      refine V_aload_n (pc := 62) dX11_orders_62 rfl ?_
      refine V_getR (pc := 63) 7 2 dX11_orders_63 flX11_232 (by decide) hl7.o hl7.R2 ?_
      refine V_iload_n (pc := 66) dX11_orders_66 rfl ?_
      refine V_ialoadE (pc := 67) dX11_orders_67 hl7.A2 (by first | decide | omega) (by omega) (h9) ?_
      refine V_icmp_geN (pc := 68) (tgt := 108) dX11_orders_68 (by decide) (by omega) (by omega) (fun c68 => absurd c68 (by omega)) (fun n68 => ?_)
      refine V_aload_n (pc := 71) dX11_orders_71 rfl ?_
      refine V_getR (pc := 72) 11 4 dX11_orders_72 flX11_99 (by decide) h11.o h11.R4 ?_
      refine V_aload_n (pc := 75) dX11_orders_75 rfl ?_
      refine V_iload_n (pc := 76) dX11_orders_76 rfl ?_
      refine V_callV (pc := 77) (ci := 0) hC dX11_orders_77 mlX11_235 mkX0_runOnce rfl rfl h11.O4.o ⟨by decide, rfl⟩ ⟨Nat.le_of_ble_eq_true rfl, Nat.le_of_ble_eq_true rfl⟩ (Nat.le_of_ble_eq_true rfl) ⟨Nat.le_of_ble_eq_true rfl, Nat.le_of_ble_eq_true rfl⟩ (fun r S' I' L' hp => ?_)
      obtain ⟨rfl, rfl, hF, _, hY⟩ := hp
      obtain ⟨rfl, hR2, hq7, hq8⟩ := hY s' hr
      skip
      refine V_if_neB (pc := 80) (tgt := 102) dX11_orders_80 (by decide) (fun c80 => ?_) (fun n80 => absurd n80 (by decide))
      refine V_iinc1 (pc := 102) (ls' := [(0, _), (1, _), (2, _), (3, _), (4, _)]) dX11_orders_102 rfl (by decide) rfl ?_
      refine V_goto (pc := 105) (tgt := 60) dX11_orders_105 (by decide) ?_
      refine ih (t + 1) s' _ (by omega) h20 (by omega) ⟨hR2, w1, w2.tr o3, hq7, hq8, w3, o7.fn hF, o8.cg fun x x1 x2 => hF x (by omega) (by omega) (by omega) (by omega), fun x hx => by rw [hF x (by omega) (by omega) (by omega) (by omega)]; exact o9 x hx⟩ hb hg
theorem lp_oc (h11 : Lay11 E S B) (ha : B + 365 ≤ a) : ∀ (m k : Nat) (s : RT) (I : IT), k + m = d.1 → s.2.1 ≤ 20 * k → ORC E S B I0 A0 a d s I →
    ((rnC (toOr d).2 m k s).2 = none → ∀ I' k' t', (rnC (toOr d).2 m k s).1 = k' → ORX E S B I0 A0 I' → V E kX11_orders (rmOf 33 6 974) Q (0 + 6) (0 + 974) S I' L 83 [(0, .ref B), (1, .int (nI n)), (2, .ref a), (3, .int (nI k')), (4, .int (nI t'))] []) →
    (∀ s', (rnC (toOr d).2 m k s).2 = some s' → s'.2.1 ≤ 240 → ∀ I' k', ORC E S B I0 A0 a d s' I' → V E kX11_orders (rmOf 33 6 974) Q (0 + 6) (0 + 974) S I' L 114 [(0, .ref B), (1, .int (nI n)), (2, .ref a), (3, .int (nI k'))] []) →
    V E kX11_orders (rmOf 33 6 974) Q (0 + 6) (0 + 974) S I L 49 [(0, .ref B), (1, .int (nI n)), (2, .ref a), (3, .int (nI k))] [] := by
  intro m
  induction m with
  | zero =>
    intro k s I hk hs hO hb hg
    have hT := hO.2.2.2.2.2.2.2.1
    have hd12 := hT.1
    obtain ⟨c, hl7, _, h3, _⟩ := hT.2
    refine V_iload_n (pc := 49) dX11_orders_49 rfl ?_
    refine V_aload_n (pc := 50) dX11_orders_50 rfl ?_
    refine V_getIE (pc := 51) 7 0 dX11_orders_51 flX11_229 (by decide) hl7.o (h3) ?_
    refine V_icmp_geN (pc := 54) (tgt := 114) dX11_orders_54 (by decide) (by omega) (by omega) (fun c54 => ?_) (fun n54 => absurd n54 (by omega))
    exact hg s rfl (by omega) I k hO
  | succ m ih =>
    intro k s I hk hs hO hb hg
    have hT := hO.2.2.2.2.2.2.2.1
    have hd12 := hT.1
    obtain ⟨c, hl7, _, h3, _, h5⟩ := hT.2
    have h20 := (h5 k (by omega)).2.1
    have key : V E kX11_orders (rmOf 33 6 974) Q (0 + 6) (0 + 974) S I L 60 [(0, .ref B), (1, .int (nI n)), (2, .ref a), (3, .int (nI k)), (4, .int (nI 0))] [] := by
      refine lp_ot (I0 := I0) (A0 := A0) (d := d) h11 ha (by omega) (d.2 k).2.1 0 s I (by omega) h20 (by omega) hO (fun hn I' t' hX => ?_) (fun s' hs' hd I' t' hO' => ?_)
      · have e := rnC_n (f := (toOr d).2) (m := m) (k := k) (s := s) hn
        rw [e] at hb
        exact hb rfl I' k t' rfl hX
      · have e := rnC_s (f := (toOr d).2) (m := m) (k := k) (s := s) hs'
        rw [e] at hb hg
        have key2 := ih (k + 1) s' I' (by omega) hd hO' hb hg
        refine V_iinc1 (pc := 108) (ls' := [(0, _), (1, _), (2, _), (3, _), (4, _)]) dX11_orders_108 rfl (by decide) rfl ?_
        refine V_goto (pc := 111) (tgt := 49) dX11_orders_111 (by decide) ?_
        refine V_loc [0, 1, 2, 3] rfl ?_
        exact key2
    refine V_iload_n (pc := 49) dX11_orders_49 rfl ?_
    refine V_aload_n (pc := 50) dX11_orders_50 rfl ?_
    refine V_getIE (pc := 51) 7 0 dX11_orders_51 flX11_229 (by decide) hl7.o (h3) ?_
    refine V_icmp_geN (pc := 54) (tgt := 114) dX11_orders_54 (by decide) (by omega) (by omega) (fun c54 => absurd c54 (by omega)) (fun n54 => ?_)
    refine V_iconst (pc := 57) (v := nI 0) dX11_orders_57 (by decide) ?_
    refine V_istore (pc := 58) (ls' := [(0, _), (1, _), (2, _), (3, _), (4, _)]) dX11_orders_58 (by decide) rfl ?_
    exact key
theorem spOrders_n (h : (rdR (atp A).2 (atp A).1 true).2 = none) : spOrders A = (-(nI 6), rfs (sfl (tp0 (sst A (-1))) (nI (rdR (atp A).2 (atp A).1 true).1)) 6) := by
  unfold spOrders
  rw [orR_rd, h]
  rfl
theorem spOrders_s (h : (rdR (atp A).2 (atp A).1 true).2 = some d) : spOrders A = orE (sfl (tp0 (sst A (-1))) (-1)) (toOr d) := by
  unfold spOrders
  rw [orR_rd, h]
  rfl
theorem c_X11_orders (h11 : Lay11 E S B) (hR : CR E S B I A) (hA : wfA A) (hB : BL E S I L) (hz : B + 365 ≤ eB E + S.1) : C E kX11_orders 33 6 974 [.ref B] S I L (PNw E S I L B (spOrders A).1 (spOrders A).2) := by
  have h10 : I B 10 = nI (atp A).1 := hR.2.2.2.2.1.1
  have hb : B < eB E + S.1 := by omega
  have hRt : CR E S B (up2 (up2 I B 10 (nI 0)) B 12 (-1)) (tp0 (sst A (-1))) := hR.tp0.sst
  have hTR : TR E S (up2 (up2 I B 10 (nI 0)) B 12 (-1)) (B + 16) (atp A).2 (atp A).1 := by
    obtain ⟨t1, t2, t3⟩ := hR.tr h11 hA (v := nI 0)
    exact ⟨t1, fun i hi => by rw [up2_row (by omega)]; exact t2 i hi, t3⟩
  have hBt : BL E S (up2 (up2 I B 10 (nI 0)) B 12 (-1)) L := (hB.u2 hb).u2 hb
  have hC := c_X5_read (od := true) (L := L) h11.O8 (show B + 16 < B + 21 by omega) hTR hBt
  refine C_of (by decide) (Nat.le_of_ble_eq_true rfl) ?_
  cases hr : (rdR (atp A).2 (atp A).1 true).2 with
  | none =>
    rw [spOrders_n hr]
    generalize rdR (atp A).2 (atp A).1 true = r0 at hC hr
    refine V_aload_n (pc := 0) dX11_orders_0 rfl ?_
    refine V_getIE (pc := 1) 11 10 dX11_orders_1 flX11_37 (by decide) h11.o (h10) ?_
    refine V_istore_n (pc := 4) (ls' := [(0, _), (1, _)]) dX11_orders_4 (by decide) rfl ?_
    refine V_aload_n (pc := 5) dX11_orders_5 rfl ?_
    refine V_iconst (pc := 6) (v := nI 0) dX11_orders_6 (by decide) ?_
    refine V_putI (pc := 7) 11 10 dX11_orders_7 flX11_37 (by decide) (by decide) (Or.inl rfl) rfl rfl h11.o ?_
    refine V_aload_n (pc := 10) dX11_orders_10 rfl ?_
    refine V_iconst (pc := 11) (v := (-1)) dX11_orders_11 (by decide) ?_
    refine V_putI (pc := 12) 11 12 dX11_orders_12 flX11_44 (by decide) (by decide) (Or.inl rfl) rfl rfl h11.o ?_
    refine V_aload_n (pc := 15) dX11_orders_15 rfl ?_
    refine V_getR (pc := 16) 11 8 dX11_orders_16 flX11_87 (by decide) h11.o h11.R8 ?_
    refine V_aload_n (pc := 19) dX11_orders_19 rfl ?_
    refine V_getR (pc := 20) 11 9 dX11_orders_20 flX11_33 (by decide) h11.o h11.R9 ?_
    refine V_iload_n (pc := 23) dX11_orders_23 rfl ?_
    refine V_iconst (pc := 24) (v := nI 1) dX11_orders_24 (by decide) ?_
    refine V_callV (pc := 25) (ci := 5) hC dX11_orders_25 mlX11_218 mkX5_read rfl rfl h11.O8.o ⟨by decide, rfl⟩ ⟨Nat.le_of_ble_eq_true rfl, Nat.le_of_ble_eq_true rfl⟩ (Nat.le_of_ble_eq_true rfl) ⟨Nat.le_of_ble_eq_true rfl, Nat.le_of_ble_eq_true rfl⟩ (fun r S' I' L' hp => ?_)
    skip
    obtain ⟨rfl, hB2, hF, ⟨-, rfl, rfl, h13⟩ | ⟨d, g1, _⟩⟩ := hp
    · have hR2 := hRt.gr Ext.rf (fun _ _ => rfl) (by omega) hF h13
      show V E kX11_orders (rmOf 33 6 974) _ _ _ _ _ _ 28 [(0, .ref B), (1, .int (nI (atp A).1))] [.null]
      refine V_astore_nZ (pc := 28) (ls' := [(0, _), (1, _), (2, _)]) dX11_orders_28 (by decide) rfl ?_
      refine V_aload_nZ (pc := 29) dX11_orders_29 rfl ?_
      refine V_ifnonnullN (pc := 30) dX11_orders_30 ?_
      refine V_aload_n (pc := 33) dX11_orders_33 rfl ?_
      refine V_bipush (pc := 34) (v := (-6)) dX11_orders_34 (by decide) ?_
      refine V_callVd (pc := 36) (ci := 11) (c_X11_refuse (r := 6) h11 (by decide) (by decide) (by decide)) dX11_orders_36 mlX11_112 mkX11_refuse rfl rfl h11.o ⟨by decide, rfl⟩ ⟨Nat.le_of_ble_eq_true rfl, Nat.le_of_ble_eq_true rfl⟩ (Nat.le_of_ble_eq_true rfl) ⟨Nat.le_of_ble_eq_true rfl, Nat.le_of_ble_eq_true rfl⟩ ?_
      refine V_iret (pc := 39) dX11_orders_39 rfl (by first | decide | omega) (by first | decide | omega) ?_
      refine ⟨rfl, rfl, hR2.hrf, (hB2.u2 hb).u2 (by omega), Ext.rf, Nat.le_refl _, fun x x1 x2 => ?_⟩
      unfold rfuC; rw [up2_row (by omega), up2_row (by omega), hF x (by omega), up2_row (by omega), up2_row (by omega)]
    · rw [hr] at g1; cases g1
  | some d =>
    rw [spOrders_s hr]
    generalize rdR (atp A).2 (atp A).1 true = r0 at hC hr
    refine V_aload_n (pc := 0) dX11_orders_0 rfl ?_
    refine V_getIE (pc := 1) 11 10 dX11_orders_1 flX11_37 (by decide) h11.o (h10) ?_
    refine V_istore_n (pc := 4) (ls' := [(0, _), (1, _)]) dX11_orders_4 (by decide) rfl ?_
    refine V_aload_n (pc := 5) dX11_orders_5 rfl ?_
    refine V_iconst (pc := 6) (v := nI 0) dX11_orders_6 (by decide) ?_
    refine V_putI (pc := 7) 11 10 dX11_orders_7 flX11_37 (by decide) (by decide) (Or.inl rfl) rfl rfl h11.o ?_
    refine V_aload_n (pc := 10) dX11_orders_10 rfl ?_
    refine V_iconst (pc := 11) (v := (-1)) dX11_orders_11 (by decide) ?_
    refine V_putI (pc := 12) 11 12 dX11_orders_12 flX11_44 (by decide) (by decide) (Or.inl rfl) rfl rfl h11.o ?_
    refine V_aload_n (pc := 15) dX11_orders_15 rfl ?_
    refine V_getR (pc := 16) 11 8 dX11_orders_16 flX11_87 (by decide) h11.o h11.R8 ?_
    refine V_aload_n (pc := 19) dX11_orders_19 rfl ?_
    refine V_getR (pc := 20) 11 9 dX11_orders_20 flX11_33 (by decide) h11.o h11.R9 ?_
    refine V_iload_n (pc := 23) dX11_orders_23 rfl ?_
    refine V_iconst (pc := 24) (v := nI 1) dX11_orders_24 (by decide) ?_
    refine V_callV (pc := 25) (ci := 5) hC dX11_orders_25 mlX11_218 mkX5_read rfl rfl h11.O8.o ⟨by decide, rfl⟩ ⟨Nat.le_of_ble_eq_true rfl, Nat.le_of_ble_eq_true rfl⟩ (Nat.le_of_ble_eq_true rfl) ⟨Nat.le_of_ble_eq_true rfl, Nat.le_of_ble_eq_true rfl⟩ (fun r S' I' L' hp => ?_)
    skip
    obtain ⟨rfl, hB2, hF, ⟨g1, _⟩ | ⟨d', g1, rfl, hS1, hE, h13, hT⟩⟩ := hp
    · rw [hr] at g1; cases g1
    have ed : d = d' := Option.some.inj (hr.symm.trans g1)
    subst ed
    rename IT => J
    have hEn : Ext E S S' (NT B) := hE.wk fun _ _ => trivial
    have h11' := h11.nt hEn
    have hin : ∀ x, inb E S x → S'.2.2 x = S.2.2 x := fun x hx => (hE x hx).2.2 trivial
    have hx : ∀ g, (g = B + 36 ∨ g = B + 50 ∨ g = B + 64) → S'.2.2 (g + 13) = S.2.2 (g + 13) := fun g hg => hin _ ⟨by have := h11.o.1.1; omega, by omega⟩
    have hR2 := hRt.gr hEn hx (by omega) hF h13
    have hwB : wfA (sfl (tp0 (sst A (-1))) (-1)) := hA.tB
    generalize sfl (tp0 (sst A (-1))) (-1) = A0 at hR2 hwB ⊢
    have hFr : ∀ x, B + 329 ≤ x → x < eB E + S.1 → J x = I x := fun x x1 x2 => by rw [hF x (by omega), up2_row (by omega), up2_row (by omega)]
    have bad : ∀ I2 k' t', (rnC (toOr d).2 (toOr d).1 0 (A0, 0, 0)).2 = none → (rnC (toOr d).2 (toOr d).1 0 (A0, 0, 0)).1 = k' → ORX E S' B J A0 I2 → V E kX11_orders (rmOf 33 6 974) (QM E (PNw E S I L B (orE A0 (toOr d)).1 (orE A0 (toOr d)).2) 6 974) (0 + 6) (0 + 974) S' I2 L 83 [(0, .ref B), (1, .int (nI (atp A).1)), (2, .ref (eB E + S.1)), (3, .int (nI k')), (4, .int (nI t'))] [] := by
      intro I2 k' t' hn hk ⟨A2, y1, y2, y3, y4⟩
      have eo : orE A0 (toOr d) = (-(nI 3), rfs (sst A0 (nI k')) 3) := by unfold orE; rw [hn, hk]
      rw [eo]
      refine V_aload_n (pc := 83) dX11_orders_83 rfl ?_
      refine V_getR (pc := 84) 11 4 dX11_orders_84 flX11_99 (by decide) h11'.o h11'.R4 ?_
      refine V_callV (pc := 87) (ci := 0) (c_X0_dropOrders h11' y1 y3 y2) dX11_orders_87 mlX11_239 mkX0_dropOrders rfl rfl h11'.O4.o ⟨by decide, rfl⟩ ⟨Nat.le_of_ble_eq_true rfl, Nat.le_of_ble_eq_true rfl⟩ (Nat.le_of_ble_eq_true rfl) ⟨Nat.le_of_ble_eq_true rfl, Nat.le_of_ble_eq_true rfl⟩ (fun r S' I' L' hp => ?_)
      obtain ⟨rfl, rfl, rfl, hR5, hF5⟩ := hp
      refine V_aload_n (pc := 90) dX11_orders_90 rfl ?_
      refine V_iload_n (pc := 91) dX11_orders_91 rfl ?_
      refine V_putI (pc := 92) 11 12 dX11_orders_92 flX11_44 (by decide) (by decide) (Or.inl rfl) rfl rfl h11'.o ?_
      refine V_aload_n (pc := 95) dX11_orders_95 rfl ?_
      refine V_bipush (pc := 96) (v := (-3)) dX11_orders_96 (by decide) ?_
      refine V_callVd (pc := 98) (ci := 11) (c_X11_refuse (r := 3) h11' (by decide) (by decide) (by decide)) dX11_orders_98 mlX11_112 mkX11_refuse rfl rfl h11'.o ⟨by decide, rfl⟩ ⟨Nat.le_of_ble_eq_true rfl, Nat.le_of_ble_eq_true rfl⟩ (Nat.le_of_ble_eq_true rfl) ⟨Nat.le_of_ble_eq_true rfl, Nat.le_of_ble_eq_true rfl⟩ ?_
      refine V_iret (pc := 101) dX11_orders_101 rfl (by first | decide | omega) (by first | decide | omega) ?_
      have hE5 : ∀ x, B + 329 ≤ x → I' x = J x := fun x x1 => by rw [hF5 x (by omega) (by omega) (by omega) (by omega)]; exact y4 x x1
      refine ⟨rfl, rfl, hR5.sst.hrf, ?_, hEn, by omega, fun x x1 x2 => ?_⟩
      · exact (((hB2.to (fun q hq => hE5 q (by omega)) fun _ _ => rfl).u2 (by omega)).u2 (by omega)).u2 (by omega)
      · unfold rfuC; rw [up2_row (by omega), up2_row (by omega), up2_row (by omega), hE5 x x1]; exact hFr x x1 x2
    have good : ∀ I2 k' s', (rnC (toOr d).2 (toOr d).1 0 (A0, 0, 0)).2 = some s' → s'.2.1 ≤ 240 → ORC E S' B J A0 (eB E + S.1) d s' I2 → V E kX11_orders (rmOf 33 6 974) (QM E (PNw E S I L B (orE A0 (toOr d)).1 (orE A0 (toOr d)).2) 6 974) (0 + 6) (0 + 974) S' I2 L 114 [(0, .ref B), (1, .int (nI (atp A).1)), (2, .ref (eB E + S.1)), (3, .int (nI k'))] [] := by
      intro I2 k' s' hn h240 ⟨y1, y2, y3, y4, y5, y6, y7, y8, y9⟩
      have eo : orE A0 (toOr d) = (nI s'.2.1, ok0 s'.1) := by unfold orE; rw [hn]
      rw [eo]
      refine V_aload_n (pc := 114) dX11_orders_114 rfl ?_
      refine V_aload_n (pc := 115) dX11_orders_115 rfl ?_
      refine V_getR (pc := 116) 11 4 dX11_orders_116 flX11_99 (by decide) h11'.o h11'.R4 ?_
      refine V_getIE (pc := 119) 0 7 dX11_orders_119 flX11_242 (by decide) h11'.O4.o (y4) ?_
      refine V_callVd (pc := 122) (ci := 11) (c_X11_grant (by first | assumption | omega | exact h11')) dX11_orders_122 mlX11_137 mkX11_grant rfl rfl h11'.o ⟨by decide, rfl⟩ ⟨Nat.le_of_ble_eq_true rfl, Nat.le_of_ble_eq_true rfl⟩ (Nat.le_of_ble_eq_true rfl) ⟨Nat.le_of_ble_eq_true rfl, Nat.le_of_ble_eq_true rfl⟩ ?_
      refine V_iret (pc := 125) dX11_orders_125 rfl (by first | decide | omega) (by first | decide | omega) ?_
      refine ⟨rfl, rfl, y1.hok, ?_, hEn, by omega, fun x x1 x2 => ?_⟩
      · exact (hB2.to (fun q hq => y9 q (by omega)) fun _ _ => rfl).u2 (by omega)
      · rw [up2_row (by omega), y9 x x1]; exact hFr x x1 x2
    show V E kX11_orders (rmOf 33 6 974) _ _ _ _ _ _ 28 [(0, .ref B), (1, .int (nI (atp A).1))] [.ref (eB E + S.1)]
    refine V_astore_n (pc := 28) (ls' := [(0, _), (1, _), (2, _)]) dX11_orders_28 (by decide) rfl ?_
    refine V_aload_n (pc := 29) dX11_orders_29 rfl ?_
    refine V_ifnonnull (pc := 30) (tgt := 40) dX11_orders_30 (by decide) ?_
    refine V_aload_n (pc := 40) dX11_orders_40 rfl ?_
    refine V_getR (pc := 41) 11 4 dX11_orders_41 flX11_99 (by decide) h11'.o h11'.R4 ?_
    refine V_callV (pc := 44) (ci := 0) (c_X0_beginOrders h11' hR2) dX11_orders_44 mlX11_226 mkX0_beginOrders rfl rfl h11'.O4.o ⟨by decide, rfl⟩ ⟨Nat.le_of_ble_eq_true rfl, Nat.le_of_ble_eq_true rfl⟩ (Nat.le_of_ble_eq_true rfl) ⟨Nat.le_of_ble_eq_true rfl, Nat.le_of_ble_eq_true rfl⟩ (fun r S' I' L' hp => ?_)
    obtain ⟨rfl, rfl, rfl, b1, b2, b3, b4, b5⟩ := hp
    refine V_iconst (pc := 47) (v := nI 0) dX11_orders_47 (by decide) ?_
    refine V_istore_n (pc := 48) (ls' := [(0, _), (1, _), (2, _), (3, _)]) dX11_orders_48 (by decide) rfl ?_
    skip
    refine lp_oc (I0 := J) (A0 := A0) (d := d) h11' hz d.1 0 (A0, 0, 0) _ (by omega) (Nat.zero_le _) ⟨b1, hwB, SmO.rf, b3, b4, Nat.zero_le _, b2, hT.cg fun x x1 x2 => b5 x (by omega), fun x hx => b5 x (by omega)⟩ (fun hn I2 k' t' hk hX => bad I2 k' t' hn hk hX) (fun s' hs hd I2 k' hO => good I2 k' s' hs hd hO)
end OC
