/-! CONSTRUCTORS: History, Village, Deeds -/
section NX
variable {E : EnT} {S S0 S1 S2 : ST} {I I0 I1 I2 : IT} {L L0 L1 L2 : LT} {o k m t n tt : Nat}
theorem V_cs {k : MI} {R : Room} {Q : QT} {cl sl cl' sl' pc : Nat} {ls : List (Nat × Value)} {st : List Value} (h : V E k R Q cl' sl' S I L pc ls st) (e1 : cl = cl') (e2 : sl = sl') : V E k R Q cl sl S I L pc ls st := by subst e1; subst e2; exact h
/-- History: i valleys are made -/
def Z2 (E : EnT) (o i : Nat) (S : ST) (I : IT) : Prop := I o 0 = nI 0 ∧ I o 1 = nI 0 ∧ S.2.2 o 2 = some (o + 1) ∧ isA E S (o + 1) 0 16 ∧ S.2.2 o 3 = some (o + 2) ∧ isA E S (o + 2) 3 16 ∧ ∀ j, j < i → S.2.2 (o + 2) j = some (o + 3 + 7 * j) ∧ Lay9 E S (o + 3 + 7 * j)
theorem c_X2_init (ho : isO E S o 2) (ho1 : o + 1 = eB E + S.1) (hB : BL E S I L) : C E kX2_init 2 114 1344 [.ref o] S I L (fun r S' I' L' => r = none ∧ PB E S I L o 114 S' I' L' ∧ Lay2 E S' o ∧ I' o 0 = nI 0 ∧ I' o 1 = nI 0) := by
  refine C_of (by decide) (Nat.le_of_ble_eq_true rfl) ?_
  have hRc : (rmOf 2 114 1344).cells = 114 := rfl
  have hRs : (rmOf 2 114 1344).slots = 1344 := rfl
  have hn9 : nfC 9 = 7 := rfl
  have key : ∀ i, i ≤ 16 → ∀ S1 I1, PB E S I L o (2 + 7 * i) S1 I1 L → Z2 E o i S1 I1 → V E kX2_init (rmOf 2 114 1344) (QM E (fun r S' I' L' => r = none ∧ PB E S I L o 114 S' I' L' ∧ Lay2 E S' o ∧ I' o 0 = nI 0 ∧ I' o 1 = nI 0) 114 1344) (2 + 7 * i) (32 + 82 * i) S1 I1 L 33 [(0, .ref o), (1, .int (nI i))] [] := by
    refine loopUp (n := 16) (P := fun i => ∀ S1 I1, PB E S I L o (2 + 7 * i) S1 I1 L → Z2 E o i S1 I1 → V E kX2_init (rmOf 2 114 1344) (QM E (fun r S' I' L' => r = none ∧ PB E S I L o 114 S' I' L' ∧ Lay2 E S' o ∧ I' o 0 = nI 0 ∧ I' o 1 = nI 0) 114 1344) (2 + 7 * i) (32 + 82 * i) S1 I1 L 33 [(0, .ref o), (1, .int (nI i))] []) ?_ ?_
    · intro S1 I1 hP hZ
      have hO1 : isO E S1 o 2 := ho.ext hP.2.1
      obtain ⟨z1, z2, z3, z4, z5, z6, z7⟩ := hZ
      refine V_iload_n (pc := 33) dX2_init_33 rfl ?_
      refine V_bipush (pc := 34) (v := nI 16) dX2_init_34 (by decide) ?_
      refine V_icmp_geN (pc := 36) (tgt := 58) dX2_init_36 (by decide) (by omega) (by omega) (fun c36 => ?_) (fun n36 => absurd n36 (by omega))
      refine V_vret (pc := 58) dX2_init_58 rfl (by first | decide | omega) (by first | decide | omega) ?_
      exact ⟨rfl, hP, ⟨hO1, z3, z4, z5, z6, fun i hi => (z7 i hi).1, fun i hi => (z7 i hi).2⟩, z1, z2⟩
    · intro i hi ih S1 I1 hP hZ
      have hO1 : isO E S1 o 2 := ho.ext hP.2.1
      obtain ⟨z1, z2, z3, z4, z5, z6, z7⟩ := hZ
      have hf := hP.2.2.1.fr
      have e := hP.e ho1
      refine V_iload_n (pc := 33) dX2_init_33 rfl ?_
      refine V_bipush (pc := 34) (v := nI 16) dX2_init_34 (by decide) ?_
      refine V_icmp_geN (pc := 36) (tgt := 58) dX2_init_36 (by decide) (by omega) (by omega) (fun c36 => absurd c36 (by omega)) (fun n36 => ?_)
      refine V_aload_n (pc := 39) dX2_init_39 rfl ?_
      refine V_getR (pc := 40) 2 3 dX2_init_40 flX2_24 (by decide) hO1 z5 ?_
      refine V_iload_n (pc := 43) dX2_init_43 rfl ?_
      refine V_new (pc := 44) 9 dX2_init_44 clX2_22 it9 iz9 (by decide) (by decide) hf (by omega) (by show 32 + 82 * i + 7 ≤ 1344; omega) ?_
      refine V_dup (pc := 47) dX2_init_47 rfl ?_
      refine V_callI (pc := 48) (c_X9_new hP.2.2.1) dX2_init_48 mlX2_28 mkX9_init rfl rfl ⟨Nat.le_of_ble_eq_true rfl, Nat.le_of_ble_eq_true rfl⟩ (Nat.le_of_ble_eq_true rfl) ⟨by omega, by omega⟩ (fun r S' I' L' hp => ?_)
      obtain ⟨rfl, hG, hL9, hV⟩ := hp
      have hO2 : isO E S' o 2 := hO1.ext hG.2.1
      have hA6 : isA E S' (o + 2) 3 16 := z6.ext hG.2.1
      have hL := hG.2.2.2.1
      subst hL
      refine V_aastore (pc := 51) dX2_init_51 hA6 (by decide) hi hL9.o (by decide) ?_
      refine V_iinc1 (pc := 52) (ls' := [(0, _), (1, _)]) dX2_init_52 rfl (by decide) rfl ?_
      refine V_goto (pc := 55) (tgt := 33) dX2_init_55 (by decide) ?_
      have e0 : ∀ x, x ≤ o + 2 → x < eB E + S1.1 := fun x hx => by omega
      have hq : S'.2.2 (o + 2) = S1.2.2 (o + 2) := (hG.2.1 (o + 2) z6.1).2.2 trivial
      have hqo : S'.2.2 o = S1.2.2 o := (hG.2.1 o hO1.1).2.2 trivial
      have hE2 : Ext E S' (S'.1, S'.2.1, up2 S'.2.2 (o + 2) i (some (eB E + S1.1))) (fun x => x ≠ o + 2) := Ext.uS
      refine V_cs (ih _ _ ((hP.new hG ho1).putq ho1 (by omega) (by omega)) ⟨?_, ?_, ?_, ?_, ?_, ?_, fun j hj => ?_⟩) (by omega) (by show 32 + 82 * i + 7 + 75 = 32 + 82 * (i + 1); omega)
      · rw [hG.2.2.2.2 o (by omega)]; exact z1
      · rw [hG.2.2.2.2 o (by omega)]; exact z2
      · show up2 S'.2.2 (o + 2) i _ o 2 = _
        rw [up2_row (by omega), hqo]; exact z3
      · exact (z4.ext hG.2.1).ext hE2
      · show up2 S'.2.2 (o + 2) i _ o 3 = _
        rw [up2_row (by omega), hqo]; exact z5
      · exact hA6.ext hE2
      · by_cases ej : j = i
        · subst ej
          have e3 : eB E + S1.1 = o + 3 + 7 * j := by omega
          refine ⟨?_, ?_⟩
          · show up2 S'.2.2 (o + 2) j _ (o + 2) j = _
            rw [up2_self, e3]
          · rw [← e3]; exact hL9.ext hE2 (by omega)
        · obtain ⟨y1, y2⟩ := z7 j (by omega)
          refine ⟨?_, (y2.ext hG.2.1 trivial).ext hE2 (by omega)⟩
          show up2 S'.2.2 (o + 2) i _ (o + 2) j = _
          rw [up2_nej ej, hq]; exact y1
  have hf := hB.fr
  have hf1 : frsh E S (up2 (up2 I o 0 (nI 0)) o 1 (nI 0)) L := ((hB.u2 (by omega)).u2 (by omega)).fr
  have hO2 : isO E (psh E S (13 + 0) 16) o 2 := ho.ext (P := fun _ => True) Ext.pu
  have hP1 : PB E S I L o 1 ((psh E S (13 + 0) 16).1, (psh E S (13 + 0) 16).2.1, up2 (psh E S (13 + 0) 16).2.2 o 2 (some (eB E + S.1))) (up2 (up2 I o 0 (nI 0)) o 1 (nI 0)) L := (((PB.rf hB).ui ho1 (Nat.le_refl _) (Nat.le_refl _)).ui ho1 (Nat.le_refl _) (Nat.le_refl _)).arr.put ho1
  have hf2 := hP1.2.2.1.fr
  have hA1 : isA E ((psh E S (13 + 0) 16).1, (psh E S (13 + 0) 16).2.1, up2 (psh E S (13 + 0) 16).2.2 o 2 (some (eB E + S.1))) (o + 1) 0 16 := by rw [ho1]; exact isA_psh.ext (P := fun x => x ≠ o) Ext.uS
  have hR1 : ((psh E S (13 + 0) 16).1, (psh E S (13 + 0) 16).2.1, up2 (psh E S (13 + 0) 16).2.2 o 2 (some (eB E + S.1))).2.2 o 2 = some (o + 1) := by rw [ho1]; exact up2_self
  have s1 : ∀ S1 I1, PB E S I L o 1 S1 I1 L → I1 o 0 = nI 0 → I1 o 1 = nI 0 → isA E S1 (o + 1) 0 16 → S1.2.2 o 2 = some (o + 1) → V E kX2_init (rmOf 2 114 1344) (QM E (fun r S' I' L' => r = none ∧ PB E S I L o 114 S' I' L' ∧ Lay2 E S' o ∧ I' o 0 = nI 0 ∧ I' o 1 = nI 0) 114 1344) 1 16 S1 I1 L 22 [(0, .ref o)] [] := by
    intro S1 I1 hP q1 q2 q3 q4
    have hO1 : isO E S1 o 2 := ho.ext hP.2.1
    have hf := hP.2.2.1.fr
    have e := hP.e ho1
    have hO3 : isO E (psh E S1 (13 + 3) 16) o 2 := hO1.ext (P := fun _ => True) Ext.pu
    have hE2 : Ext E (psh E S1 (13 + 3) 16) ((psh E S1 (13 + 3) 16).1, (psh E S1 (13 + 3) 16).2.1, up2 (psh E S1 (13 + 3) 16).2.2 o 3 (some (eB E + S1.1))) (fun x => x ≠ o) := Ext.uS
    refine V_aload_n (pc := 22) dX2_init_22 rfl ?_
    refine V_bipush (pc := 23) (v := nI 16) dX2_init_23 (by decide) ?_
    refine V_anewarray (pc := 25) (t := 3) (ci := 9) (by decide) dX2_init_25 clX2_22 (by decide) hf (by decide) (by decide) ?_
    refine V_putR (pc := 28) 2 3 dX2_init_28 flX2_24 (by decide) (by decide) (Or.inr ⟨rfl, rfl, rfl⟩) rfl rfl (by assumption) ?_
    refine V_iconst (pc := 31) (v := nI 0) dX2_init_31 (by decide) ?_
    refine V_istore_n (pc := 32) (ls' := [(0, _), (1, _)]) dX2_init_32 (by decide) rfl ?_
    refine key 0 (by omega) _ _ (hP.arr.put ho1) ⟨q1, q2, ?_, (q3.ext (P := fun x => x ≠ o) Ext.pu).ext hE2, ?_, ?_, fun j hj => absurd hj (Nat.not_lt_zero j)⟩
    · show up2 S1.2.2 o 3 _ o 2 = _
      rw [up2_nej (by omega)]; exact q4
    · show up2 S1.2.2 o 3 _ o 3 = _
      rw [up2_self, e]
    · rw [show o + 2 = eB E + S1.1 by omega]; exact isA_psh.ext hE2
  refine V_aload_n (pc := 0) dX2_init_0 rfl ?_
  refine V_objInit (pc := 1) dX2_init_1 mlX2_3 imO coO (Nat.le_of_ble_eq_true rfl) (Nat.le_of_ble_eq_true rfl) ?_
  refine V_aload_n (pc := 4) dX2_init_4 rfl ?_
  refine V_iconst (pc := 5) (v := nI 0) dX2_init_5 (by decide) ?_
  refine V_putI (pc := 6) 2 0 dX2_init_6 flX2_9 (by decide) (by decide) (Or.inl rfl) rfl rfl (by assumption) ?_
  refine V_aload_n (pc := 9) dX2_init_9 rfl ?_
  refine V_iconst (pc := 10) (v := nI 0) dX2_init_10 (by decide) ?_
  refine V_putI (pc := 11) 2 1 dX2_init_11 flX2_15 (by decide) (by decide) (Or.inl rfl) rfl rfl (by assumption) ?_
  refine V_aload_n (pc := 14) dX2_init_14 rfl ?_
  refine V_bipush (pc := 15) (v := nI 16) dX2_init_15 (by decide) ?_
  refine V_newarray (pc := 17) (t := 0) dX2_init_17 (by decide) acI (by first | decide | omega) (by assumption) (by first | decide | omega) (by first | decide | omega) ?_
  refine V_putR (pc := 19) 2 2 dX2_init_19 flX2_18 (by decide) (by decide) (Or.inr ⟨rfl, rfl, rfl⟩) rfl rfl (by assumption) ?_
  exact s1 _ _ hP1 (by rw [up2_nej (by omega), up2_self]) up2_self hA1 hR1
end NX
