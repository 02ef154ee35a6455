/-! CONSTRUCTORS: Deeds; new objects as their makers see them -/
section NZ2
variable {E : EnT} {S S0 S1 S2 : ST} {I I0 I1 I2 : IT} {L L0 L1 L2 : LT} {o k m t n tt w j d : Nat}
def PN2 (E : EnT) (S : ST) (I : IT) (L : LT) (r : Option Value) (S' : ST) (I' : IT) (L' : LT) : Prop := r = none ∧ GR E S I L 115 S' I' L' ∧ Lay2 E S' (eB E + S.1) ∧ I' (eB E + S.1) 0 = nI 0 ∧ I' (eB E + S.1) 1 = nI 0
theorem c_X2_new (hB : BL E S I L) : C E kX2_init 2 114 1344 [.ref (eB E + S.1)] (psh E S 2 0) I L (PN2 E S I L) := (c_X2_init (S := psh E S 2 0) isO_psh rfl hB.pu).imp fun _ _ _ _ hp => ⟨hp.1, hp.2.1.gr, hp.2.2⟩
theorem c_X4_new (hB : BL E S I L) : C E kX4_init 1 6 568 [.ref (eB E + S.1)] (psh E S 4 0) I L (fun r S' I' L' => r = none ∧ GR E S I L 7 S' I' L' ∧ Lay4 E S' (eB E + S.1)) := (c_X4_init (S := psh E S 4 0) isO_psh rfl hB.pu).imp fun r S' I' L' hp => by
  obtain ⟨h1, h2, h3, h4, h5⟩ := hp
  exact ⟨h1, h2.gr h5.symm fun x hx => by rw [h4], h3⟩
theorem c_X6_new (hB : BL E S I L) : C E kX6_init 1 1 64 [.ref (eB E + S.1)] (psh E S 6 0) I L (fun r S' I' L' => r = none ∧ GR E S I L 2 S' I' L' ∧ Lay6 E S' (eB E + S.1)) := (c_X6_init (S := psh E S 6 0) isO_psh rfl hB.pu).imp fun r S' I' L' hp => by
  obtain ⟨h1, h2, h3, h4, h5⟩ := hp
  exact ⟨h1, h2.gr h5.symm fun x hx => by rw [h4], h3⟩
theorem c_X8_new (hB : BL E S I L) : C E kX8_init 1 5 2576 [.ref (eB E + S.1)] (psh E S 8 0) I L (fun r S' I' L' => r = none ∧ GR E S I L 6 S' I' L' ∧ Lay8 E S' (eB E + S.1)) := (c_X8_init (S := psh E S 8 0) isO_psh rfl hB.pu).imp fun r S' I' L' hp => by
  obtain ⟨h1, h2, h3, h4, h5⟩ := hp
  exact ⟨h1, h2.gr h5.symm fun x hx => by rw [h4, up2_row (by omega), up2_row (by omega), up2_row (by omega)], h3⟩
theorem c_X5_new (hB : BL E S I L) : C E kX5_init 1 8 2171 [.ref (eB E + S.1)] (psh E S 5 0) I L (fun r S' I' L' => r = none ∧ GR E S I L 9 S' I' L' ∧ Lay5 E S' (eB E + S.1) ∧ I' (eB E + S.1) 12 = nI 0 ∧ I' (eB E + S.1) 13 = -1) := (c_X5_init (S := psh E S 5 0) isO_psh rfl hB.pu).imp fun r S' I' L' hp => by
  obtain ⟨h1, h2, h3, h4, h5⟩ := hp
  refine ⟨h1, h2.gr h5.symm fun x hx => by rw [h4, up2_row (by omega), up2_row (by omega), up2_row (by omega), up2_row (by omega), up2_row (by omega), up2_row (by omega)], h3, ?_, ?_⟩
  · rw [h4, up2_nej (by omega), up2_self]
  · rw [h4, up2_self]
theorem c_X7_new (h5 : Lay5 E S o) (hB : BL E S I L) (h12 : I o 12 = nI 0) : C E kX7_init 2 5 968 [.ref (eB E + S.1), .int (nI 0), .ref o] (psh E S 7 0) I L (fun r S' I' L' => r = none ∧ GR E S I L 6 S' I' L' ∧ Lay7 E S' (eB E + S.1) 0 0 ∧ I' (eB E + S.1) 0 = nI 0) := (c_X7_init (S := psh E S 7 0) (n := 0) (m := 0) (h5.ext (P := fun _ => True) Ext.pu trivial) isO_psh rfl (by have := h5.A11.1.2; omega) (by omega) (by omega) h12 hB.pu).imp fun r S' I' L' hp => by
  obtain ⟨h1, hT⟩ := hp
  have hT2 := hT
  obtain ⟨w1, w2, w3, w4, w5, w6, w7⟩ := hT
  subst w2
  refine ⟨h1, ⟨by have w1 : S'.1 = S.1 + 1 + 5 := w1; omega, Ext.tn Ext.pu w3 (fun z => by have := z.2; omega), w4, rfl, w5⟩, hT2.lay isO_psh, w6⟩
theorem c_X10_new (hB : BL E S I L) (ht : isO E S tt 7) : C E kX10_init 2 13 124 [.ref (eB E + S.1), .ref tt] (psh E S 10 0) I L (fun r S' I' L' => r = none ∧ GR E S I L 14 S' I' L' ∧ Lay10 E S' (eB E + S.1) tt ∧ VgM I' (eB E + S.1) qz ∧ ∀ l, l < 6 → S'.2.2 (eB E + S.1 + 13) l = some tt) := (c_X10_init (S := psh E S 10 0) isO_psh rfl hB.pu (ht.ext (P := fun _ => True) Ext.pu)).imp fun r S' I' L' hp => ⟨hp.1, hp.2.1.gr, hp.2.2⟩
theorem c_X3_new (hB : BL E S I L) (h6 : Lay6 E S t) : C E kX3_init 1 1 24 [.ref (eB E + S.1), .ref t] (psh E S 3 0) I L (fun r S' I' L' => r = none ∧ GR E S I L 2 S' I' L' ∧ Lay3 E S' (eB E + S.1) t) := (c_X3_init (S := psh E S 3 0) isO_psh rfl hB.pu (h6.ext (P := fun _ => True) Ext.pu trivial) h6.o.1.2).imp fun r S' I' L' hp => ⟨hp.1, hp.2.1.gr, hp.2.2⟩
/-- Deeds -/
def PN0 (E : EnT) (S : ST) (I : IT) (L : LT) (o w j t : Nat) (r : Option Value) (S' : ST) (I' : IT) (L' : LT) : Prop := r = none ∧ PB E S I L o 238 S' I' L' ∧ Lay0 E S' o w j t ∧ I' (o + 1) 0 = nI 0 ∧ I' (o + 1) 1 = nI 0
theorem c_X0_init (ho : isO E S o 0) (ho1 : o + 1 = eB E + S.1) (hB : BL E S I L) (h3 : Lay3 E S j t) (h6 : Lay6 E S t) (hjo : j < o ∧ t < o) : C E kX0_init 3 238 2802 [.ref o, .ref w, .ref j, .ref t] S I L (PN0 E S I L o w j t) := by
  refine C_of (by decide) (Nat.le_of_ble_eq_true rfl) ?_
  have s4 : ∀ S1 I1, PB E S I L o (115 + 1 + 7 + 115) S1 I1 L → S1.2.2 o 3 = some (o + 1) → Lay2 E S1 (o + 1) → I1 (o + 1) 0 = nI 0 → I1 (o + 1) 1 = nI 0 → S1.2.2 o 4 = some (o + 116) → isA E S1 (o + 116) 0 24 → S1.2.2 o 5 = some (o + 117) → Lay9 E S1 (o + 117) → S1.2.2 o 6 = some (o + 124) → Lay2 E S1 (o + 124) → V E kX0_init (rmOf 3 238 2802) (QM E (PN0 E S I L o w j t) 238 2802) 238 2802 S1 I1 L 45 [(0, .ref o), (1, .ref w), (2, .ref j), (3, .ref t)] [] := by
    intro S1 I1 hP a1 a2 a3 a4 a5 a6 a7 a8 a9 a10
    have hO : isO E S1 o 0 := ho.ext hP.2.1
    have hO2 : isO E (S1.1, S1.2.1, up2 S1.2.2 o 0 (some w)) o 0 := hO.ext (P := fun x => x ≠ o) Ext.uS
    have hO3 : isO E (S1.1, S1.2.1, up2 (up2 S1.2.2 o 0 (some w)) o 1 (some j)) o 0 := hO2.ext (P := fun x => x ≠ o) (Ext.uS (S := (S1.1, S1.2.1, up2 S1.2.2 o 0 (some w))))
    have ex : Ext E S1 (S1.1, S1.2.1, up2 (up2 (up2 S1.2.2 o 0 (some w)) o 1 (some j)) o 2 (some t)) (fun x => x ≠ o) := (Ext.uS.tr Ext.uS).tr Ext.uS
    have r : ∀ f, f ≠ 0 → f ≠ 1 → f ≠ 2 → up2 (up2 (up2 S1.2.2 o 0 (some w)) o 1 (some j)) o 2 (some t) o f = S1.2.2 o f := fun f f0 f1 f2 => by rw [up2_nej f2, up2_nej f1, up2_nej f0]
    refine V_aload_n (pc := 45) dX0_init_45 rfl ?_
    refine V_iconst (pc := 46) (v := nI 0) dX0_init_46 (by decide) ?_
    refine V_putI (pc := 47) 0 7 dX0_init_47 flX0_34 (by decide) (by decide) (Or.inl rfl) rfl rfl (by assumption) ?_
    refine V_aload_n (pc := 50) dX0_init_50 rfl ?_
    refine V_iconst (pc := 51) (v := (-1)) dX0_init_51 (by decide) ?_
    refine V_putI (pc := 52) 0 8 dX0_init_52 flX0_38 (by decide) (by decide) (Or.inl rfl) rfl rfl (by assumption) ?_
    refine V_aload_n (pc := 55) dX0_init_55 rfl ?_
    refine V_aload_n (pc := 56) dX0_init_56 rfl ?_
    refine V_putR (pc := 57) 0 0 dX0_init_57 flX0_41 (by decide) (by decide) (Or.inr ⟨rfl, rfl, rfl⟩) rfl rfl hO ?_
    refine V_aload_n (pc := 60) dX0_init_60 rfl ?_
    refine V_aload_n (pc := 61) dX0_init_61 rfl ?_
    refine V_putR (pc := 62) 0 1 dX0_init_62 flX0_45 (by decide) (by decide) (Or.inr ⟨rfl, rfl, rfl⟩) rfl rfl hO2 ?_
    refine V_aload_n (pc := 65) dX0_init_65 rfl ?_
    refine V_aload_n (pc := 66) dX0_init_66 rfl ?_
    refine V_putR (pc := 67) 0 2 dX0_init_67 flX0_49 (by decide) (by decide) (Or.inr ⟨rfl, rfl, rfl⟩) rfl rfl hO3 ?_
    refine V_vret (pc := 70) dX0_init_70 rfl (by first | decide | omega) (by first | decide | omega) ?_
    refine ⟨rfl, (((((hP.ui ho1 (Nat.le_refl _) (by omega)).ui ho1 (Nat.le_refl _) (by omega)).put ho1).put ho1).put ho1), ⟨hO.ext ex, ?_, ?_, (h3.ext hP.2.1 (by omega) (by omega)).ext ex (by omega) (by omega), up2_self, (h6.ext hP.2.1 (by omega)).ext ex (by omega), (r 3 (by decide) (by decide) (by decide)).trans a1, a2.ext ex (by omega) (by omega) (fun i hi => by omega), (r 4 (by decide) (by decide) (by decide)).trans a5, a6.ext ex, (r 5 (by decide) (by decide) (by decide)).trans a7, a8.ext ex (by omega), (r 6 (by decide) (by decide) (by decide)).trans a9, a10.ext ex (by omega) (by omega) (fun i hi => by omega)⟩, ?_, ?_⟩
    · show up2 (up2 (up2 S1.2.2 o 0 (some w)) o 1 (some j)) o 2 (some t) o 0 = _
      rw [up2_nej (by omega), up2_nej (by omega), up2_self]
    · show up2 (up2 (up2 S1.2.2 o 0 (some w)) o 1 (some j)) o 2 (some t) o 1 = _
      rw [up2_nej (by omega), up2_self]
    · rw [up2_row (by omega), up2_row (by omega)]; exact a3
    · rw [up2_row (by omega), up2_row (by omega)]; exact a4
  have s3 : ∀ S1 I1, PB E S I L o (115 + 1 + 7) S1 I1 L → S1.2.2 o 3 = some (o + 1) → Lay2 E S1 (o + 1) → I1 (o + 1) 0 = nI 0 → I1 (o + 1) 1 = nI 0 → S1.2.2 o 4 = some (o + 116) → isA E S1 (o + 116) 0 24 → S1.2.2 o 5 = some (o + 117) → Lay9 E S1 (o + 117) → V E kX0_init (rmOf 3 238 2802) (QM E (PN0 E S I L o w j t) 238 2802) 123 1454 S1 I1 L 34 [(0, .ref o), (1, .ref w), (2, .ref j), (3, .ref t)] [] := by
    intro S1 I1 hP a1 a2 a3 a4 a5 a6 a7 a8
    have hO : isO E S1 o 0 := ho.ext hP.2.1
    have hf := hP.2.2.1.fr
    have e := hP.e ho1
    refine V_aload_n (pc := 34) dX0_init_34 rfl ?_
    refine V_new (pc := 35) 2 dX0_init_35 clX0_9 it2 iz2 (by decide) (by decide) (by assumption) (by first | decide | omega) (by first | decide | omega) ?_
    refine V_dup (pc := 38) dX0_init_38 rfl ?_
    refine V_callI (pc := 39) (c_X2_new hP.2.2.1) dX0_init_39 mlX0_11 mkX2_init rfl rfl ⟨Nat.le_of_ble_eq_true rfl, Nat.le_of_ble_eq_true rfl⟩ (Nat.le_of_ble_eq_true rfl) ⟨Nat.le_of_ble_eq_true rfl, Nat.le_of_ble_eq_true rfl⟩ (fun r S' I' L' hp => ?_)
    obtain ⟨rfl, hG, hL2, hi1, hi2⟩ := hp
    have hL := hG.2.2.2.1
    subst hL
    have hO2 : isO E S' o 0 := hO.ext hG.2.1
    have hq : S'.2.2 o = S1.2.2 o := (hG.2.1 o hO.1).2.2 trivial
    have ex : Ext E S' (S'.1, S'.2.1, up2 S'.2.2 o 6 (some (eB E + S1.1))) (fun x => x ≠ o) := Ext.uS
    have r : ∀ f, f ≠ 6 → up2 S'.2.2 o 6 (some (eB E + S1.1)) o f = S1.2.2 o f := fun f hf => by rw [up2_nej hf, hq]
    rw [show eB E + S1.1 = o + 124 by omega] at hL2
    refine V_putR (pc := 42) 0 6 dX0_init_42 flX0_31 (by decide) (by decide) (Or.inr ⟨rfl, rfl, rfl⟩) rfl rfl (by assumption) ?_
    refine s4 _ _ ((hP.new hG ho1).put ho1) ((r 3 (by decide)).trans a1) ((a2.ext hG.2.1 trivial trivial (fun _ _ => trivial)).ext ex (by omega) (by omega) (fun i hi => by omega)) ?_ ?_ ((r 4 (by decide)).trans a5) ((a6.ext hG.2.1).ext ex) ((r 5 (by decide)).trans a7) ((a8.ext hG.2.1 trivial).ext ex (by omega)) ?_ (hL2.ext ex (by omega) (by omega) (fun i hi => by omega))
    · rw [hG.2.2.2.2 _ (by omega)]; exact a3
    · rw [hG.2.2.2.2 _ (by omega)]; exact a4
    · show up2 S'.2.2 o 6 _ o 6 = _
      rw [up2_self, show eB E + S1.1 = o + 124 by omega]
  have s2 : ∀ S1 I1, PB E S I L o (115 + 1) S1 I1 L → S1.2.2 o 3 = some (o + 1) → Lay2 E S1 (o + 1) → I1 (o + 1) 0 = nI 0 → I1 (o + 1) 1 = nI 0 → S1.2.2 o 4 = some (o + 116) → isA E S1 (o + 116) 0 24 → V E kX0_init (rmOf 3 238 2802) (QM E (PN0 E S I L o w j t) 238 2802) 116 1372 S1 I1 L 23 [(0, .ref o), (1, .ref w), (2, .ref j), (3, .ref t)] [] := by
    intro S1 I1 hP a1 a2 a3 a4 a5 a6
    have hO : isO E S1 o 0 := ho.ext hP.2.1
    have hf := hP.2.2.1.fr
    have e := hP.e ho1
    refine V_aload_n (pc := 23) dX0_init_23 rfl ?_
    refine V_new (pc := 24) 9 dX0_init_24 clX0_24 it9 iz9 (by decide) (by decide) (by assumption) (by first | decide | omega) (by first | decide | omega) ?_
    refine V_dup (pc := 27) dX0_init_27 rfl ?_
    refine V_callI (pc := 28) (c_X9_new hP.2.2.1) dX0_init_28 mlX0_26 mkX9_init rfl rfl ⟨Nat.le_of_ble_eq_true rfl, Nat.le_of_ble_eq_true rfl⟩ (Nat.le_of_ble_eq_true rfl) ⟨Nat.le_of_ble_eq_true rfl, Nat.le_of_ble_eq_true rfl⟩ (fun r S' I' L' hp => ?_)
    obtain ⟨rfl, hG, hL9, hV⟩ := hp
    have hL := hG.2.2.2.1
    subst hL
    have hO2 : isO E S' o 0 := hO.ext hG.2.1
    have hq : S'.2.2 o = S1.2.2 o := (hG.2.1 o hO.1).2.2 trivial
    have ex : Ext E S' (S'.1, S'.2.1, up2 S'.2.2 o 5 (some (eB E + S1.1))) (fun x => x ≠ o) := Ext.uS
    have r : ∀ f, f ≠ 5 → up2 S'.2.2 o 5 (some (eB E + S1.1)) o f = S1.2.2 o f := fun f hf => by rw [up2_nej hf, hq]
    rw [show eB E + S1.1 = o + 117 by omega] at hL9
    refine V_putR (pc := 31) 0 5 dX0_init_31 flX0_27 (by decide) (by decide) (Or.inr ⟨rfl, rfl, rfl⟩) rfl rfl (by assumption) ?_
    refine s3 _ _ ((hP.new hG ho1).put ho1) ((r 3 (by decide)).trans a1) ((a2.ext hG.2.1 trivial trivial (fun _ _ => trivial)).ext ex (by omega) (by omega) (fun i hi => by omega)) ?_ ?_ ((r 4 (by decide)).trans a5) ((a6.ext hG.2.1).ext ex) ?_ (hL9.ext ex (by omega))
    · rw [hG.2.2.2.2 _ (by omega)]; exact a3
    · rw [hG.2.2.2.2 _ (by omega)]; exact a4
    · show up2 S'.2.2 o 5 _ o 5 = _
      rw [up2_self, show eB E + S1.1 = o + 117 by omega]
  have s1 : ∀ S1 I1, PB E S I L o 115 S1 I1 L → S1.2.2 o 3 = some (o + 1) → Lay2 E S1 (o + 1) → I1 (o + 1) 0 = nI 0 → I1 (o + 1) 1 = nI 0 → V E kX0_init (rmOf 3 238 2802) (QM E (PN0 E S I L o w j t) 238 2802) 115 1348 S1 I1 L 15 [(0, .ref o), (1, .ref w), (2, .ref j), (3, .ref t)] [] := by
    intro S1 I1 hP a1 a2 a3 a4
    have hO : isO E S1 o 0 := ho.ext hP.2.1
    have hf := hP.2.2.1.fr
    have e := hP.e ho1
    have hO2 : isO E (psh E S1 (13 + 0) 24) o 0 := hO.ext (P := fun _ => True) Ext.pu
    have ex : Ext E (psh E S1 (13 + 0) 24) ((psh E S1 (13 + 0) 24).1, (psh E S1 (13 + 0) 24).2.1, up2 (psh E S1 (13 + 0) 24).2.2 o 4 (some (eB E + S1.1))) (fun x => x ≠ o) := Ext.uS
    have ex0 : Ext E S1 ((psh E S1 (13 + 0) 24).1, (psh E S1 (13 + 0) 24).2.1, up2 (psh E S1 (13 + 0) 24).2.2 o 4 (some (eB E + S1.1))) (fun x => x ≠ o) := Ext.pu.tr ex
    refine V_aload_n (pc := 15) dX0_init_15 rfl ?_
    refine V_bipush (pc := 16) (v := nI 24) dX0_init_16 (by decide) ?_
    refine V_newarray (pc := 18) (t := 0) dX0_init_18 (by decide) acI (by first | decide | omega) (by assumption) (by first | decide | omega) (by first | decide | omega) ?_
    refine V_putR (pc := 20) 0 4 dX0_init_20 flX0_20 (by decide) (by decide) (Or.inr ⟨rfl, rfl, rfl⟩) rfl rfl (by assumption) ?_
    refine s2 _ _ (hP.arr.put ho1) ?_ (a2.ext ex0 (by omega) (by omega) (fun i hi => by omega)) a3 a4 ?_ ?_
    · show up2 S1.2.2 o 4 _ o 3 = _
      rw [up2_nej (by omega)]; exact a1
    · show up2 S1.2.2 o 4 _ o 4 = _
      rw [up2_self, show eB E + S1.1 = o + 116 by omega]
    · rw [show o + 116 = eB E + S1.1 by omega]; exact isA_psh.ext ex
  have hf := hB.fr
  refine V_aload_n (pc := 0) dX0_init_0 rfl ?_
  refine V_objInit (pc := 1) dX0_init_1 mlX0_3 imO coO (Nat.le_of_ble_eq_true rfl) (Nat.le_of_ble_eq_true rfl) ?_
  refine V_aload_n (pc := 4) dX0_init_4 rfl ?_
  refine V_new (pc := 5) 2 dX0_init_5 clX0_9 it2 iz2 (by decide) (by decide) (by assumption) (by first | decide | omega) (by first | decide | omega) ?_
  refine V_dup (pc := 8) dX0_init_8 rfl ?_
  refine V_callI (pc := 9) (c_X2_new hB) dX0_init_9 mlX0_11 mkX2_init rfl rfl ⟨Nat.le_of_ble_eq_true rfl, Nat.le_of_ble_eq_true rfl⟩ (Nat.le_of_ble_eq_true rfl) ⟨Nat.le_of_ble_eq_true rfl, Nat.le_of_ble_eq_true rfl⟩ (fun r S' I' L' hp => ?_)
  obtain ⟨rfl, hG, hL2, hi1, hi2⟩ := hp
  have hL := hG.2.2.2.1
  subst hL
  have hP := (PB.rf (o := o) hB).new hG ho1
  have hO2 : isO E S' o 0 := ho.ext (P := fun _ => True) hG.2.1
  rw [← ho1] at hL2 hi1 hi2
  refine V_putR (pc := 12) 0 3 dX0_init_12 flX0_12 (by decide) (by decide) (Or.inr ⟨rfl, rfl, rfl⟩) rfl rfl (by assumption) ?_
  refine s1 _ _ (hP.put ho1) ?_ (hL2.ext (P := fun x => x ≠ o) Ext.uS (by omega) (by omega) (fun i hi => by omega)) hi1 hi2
  show up2 S'.2.2 o 3 _ o 3 = _
  rw [up2_self, ho1]
theorem c_X0_new (hB : BL E S I L) (h3 : Lay3 E S j t) : C E kX0_init 3 238 2802 [.ref (eB E + S.1), .ref w, .ref j, .ref t] (psh E S 0 0) I L (fun r S' I' L' => r = none ∧ GR E S I L 239 S' I' L' ∧ Lay0 E S' (eB E + S.1) w j t ∧ I' (eB E + S.1 + 1) 0 = nI 0 ∧ I' (eB E + S.1 + 1) 1 = nI 0) := (c_X0_init (S := psh E S 0 0) isO_psh rfl hB.pu (h3.ext (P := fun _ => True) Ext.pu trivial trivial) (h3.O0.ext (P := fun _ => True) Ext.pu trivial) ⟨h3.o.1.2, h3.O0.o.1.2⟩).imp fun r S' I' L' hp => ⟨hp.1, hp.2.1.gr, hp.2.2⟩
theorem c_X1_new (hB : BL E S I L) (hd : Lay0 E S d w j t) : C E kX1_init 2 7 82 [.ref (eB E + S.1), .ref d] (psh E S 1 0) I L (fun r S' I' L' => r = none ∧ GR E S I L 8 S' I' L' ∧ Lay1 E S' (eB E + S.1) w j t d ∧ VlM I' (eB E + S.1 + 1) qz) := (c_X1_init (S := psh E S 1 0) isO_psh rfl hB.pu (hd.ext (P := fun _ => True) Ext.pu trivial trivial trivial trivial trivial (fun _ _ => trivial) trivial trivial trivial (fun _ _ => trivial)) ⟨by have := ((hd.O6).2.2.2.2.2.2 15 (by omega)).A6.1.2; omega, hd.O1.o.1.2, hd.O2.o.1.2⟩).imp fun r S' I' L' hp => ⟨hp.1, hp.2.1.gr, hp.2.2⟩
end NZ2
