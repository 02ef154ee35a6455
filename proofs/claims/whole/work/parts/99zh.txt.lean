/-! THE CLASS: a new text -/
def tLen (n m k : Nat) : Nat := if k ≤ 2 then n else if k = 3 then n * 4 else m
/-- i of its rows are made -/
def TI (E : EnT) (S : ST) (I : IT) (L : LT) (a o n m i : Nat) (S' : ST) (I' : IT) (L' : LT) : Prop := S'.1 = S.1 + i ∧ L' = L ∧ Ext E S S' (fun x => x ≠ a) ∧ BL E S' I' L ∧ (∀ x, x < a → I' x = I x) ∧ I' a 0 = nI n ∧ ∀ k, 1 ≤ k → k ≤ i → S'.2.2 a k = some (a + k) ∧ isA E S' (a + k) 0 (tLen n m k) ∧ ∀ j, j < tLen n m k → I' (a + k) j = I (o + 3 + k) j
section TX
variable {E : EnT} {S : ST} {I : IT} {L : LT} {a o n m i : Nat}
theorem TI.st {S1 : ST} {I1 : IT} {g : Nat → Int32} (h : TI E S I L a o n m i S1 I1 L) (ha : isO E S a 7) (ha1 : a + 1 = eB E + S.1) (ho : o + 8 < a) (hi : i < 5) (hg : ∀ j, j < tLen n m (i + 1) → g j = I1 (o + 3 + (i + 1)) j) : TI E S I L a o n m (i + 1) ((psh E S1 13 (tLen n m (i + 1))).1, (psh E S1 13 (tLen n m (i + 1))).2.1, up2 (psh E S1 13 (tLen n m (i + 1))).2.2 a (i + 1) (some (eB E + S1.1))) (upr I1 (eB E + S1.1) g) L := by
  obtain ⟨h1, -, h3, h4, h5, h6, h7⟩ := h
  have en : eB E + S1.1 = a + (i + 1) := by omega
  refine ⟨by show S1.1 + 1 = _; omega, rfl, (h3.tr Ext.pu).tr Ext.uS, (h4.pu.ur (by show eB E + S1.1 < eB E + (S1.1 + 1); omega)).uS (by show a < eB E + (S1.1 + 1); omega), fun x hx => by rw [upr_row (by omega)]; exact h5 x hx, by rw [upr_row (by omega)]; exact h6, fun k k1 k2 => ?_⟩
  by_cases e : k = i + 1
  · subst e
    refine ⟨by show up2 _ a (i + 1) _ a (i + 1) = _; rw [up2_self, en], ?_, fun j hj => ?_⟩
    · rw [← en]; exact isA_psh.ext (P := fun x => x ≠ a) Ext.uS
    · rw [← en, upr_self, hg j hj, h5 _ (by omega)]
  · obtain ⟨g1, g2, g3⟩ := h7 k k1 (by omega)
    refine ⟨by show up2 S1.2.2 a (i + 1) _ a k = _; rw [up2_nej e]; exact g1, (g2.ext (P := fun x => x ≠ a) Ext.pu).ext (P := fun x => x ≠ a) Ext.uS, fun j hj => by rw [upr_row (by omega)]; exact g3 j hj⟩
def PTx (E : EnT) (S : ST) (I : IT) (L : LT) (a o n m : Nat) (r : Option Value) (S' : ST) (I' : IT) (L' : LT) : Prop := r = none ∧ TI E S I L a o n m 5 S' I' L'
theorem c_X7_init (h5 : Lay5 E S o) (ha : isO E S a 7) (ha1 : a + 1 = eB E + S.1) (ho : o + 8 < a) (hn : n ≤ 12) (hm : m ≤ 448) (h12 : I o 12 = nI m) (hB : BL E S I L) : C E kX7_init 2 5 968 [.ref a, .int (nI n), .ref o] S I L (PTx E S I L a o n m) := by
  refine C_of (by decide) (Nat.le_of_ble_eq_true rfl) ?_
  have s5 : ∀ S1 I1, TI E S I L a o n m 5 S1 I1 L → V E kX7_init (rmOf 2 5 968) (QM E (PTx E S I L a o n m) 5 968) (0 + 1 + 1 + 1 + 1 + 1) (0 + n + n + n * 4 + m + m) S1 I1 L 77 [(0, .ref a), (1, .int (nI n)), (2, .ref o)] [] := by
    intro S1 I1 hT
    refine V_vret (pc := 77) dX7_init_77 rfl (by first | decide | omega) (by first | decide | omega) ?_
    exact ⟨rfl, hT⟩
  have s4 : ∀ S1 I1, TI E S I L a o n m 4 S1 I1 L → V E kX7_init (rmOf 2 5 968) (QM E (PTx E S I L a o n m) 5 968) (0 + 1 + 1 + 1 + 1) (0 + n + n + n * 4 + m) S1 I1 L 62 [(0, .ref a), (1, .int (nI n)), (2, .ref o)] [] := by
    intro S1 I1 hT
    have h5' : Lay5 E S1 o := h5.ext hT.2.2.1 (by omega)
    have ha' : isO E S1 a 7 := ha.ext hT.2.2.1
    have e12 : I1 o 12 = nI m := (congrFun (hT.2.2.2.2.1 o (by omega)) 12).trans h12
    have ha2 : isO E (psh E S1 13 m) a 7 := ha'.ext (P := fun _ => True) Ext.pu
    refine V_aload_n (pc := 62) dX7_init_62 rfl ?_
    refine V_aload_n (pc := 63) dX7_init_63 rfl ?_
    refine V_getR (pc := 64) 5 11 dX7_init_64 flX7_41 (by decide) h5'.o h5'.R11 ?_
    refine V_aload_n (pc := 67) dX7_init_67 rfl ?_
    refine V_getIE (pc := 68) 5 12 dX7_init_68 flX7_37 (by decide) h5'.o (e12) ?_
    refine V_callS (pc := 71) (c_J7_copyOf_59c91 (n := m) h5'.A11 (by omega) (by omega) hT.2.2.2.1) dX7_init_71 mlX7_19 mkJ7_copyOf_59c91 rfl rfl ⟨Nat.le_of_ble_eq_true rfl, Nat.le_of_ble_eq_true rfl⟩ (Nat.le_of_ble_eq_true rfl) ⟨Nat.le_of_ble_eq_true rfl, by show _ ≤ 968; omega⟩ (fun r S' I' L' hp => ?_)
    obtain ⟨rfl, rfl, rfl, g, rfl, hg⟩ := hp
    refine V_putR (pc := 74) 7 5 dX7_init_74 flX7_44 (by decide) (by decide) (Or.inr ⟨rfl, rfl, rfl⟩) rfl rfl ha2 ?_
    exact s5 _ _ (hT.st ha ha1 ho (by omega) hg)
  have s3 : ∀ S1 I1, TI E S I L a o n m 3 S1 I1 L → V E kX7_init (rmOf 2 5 968) (QM E (PTx E S I L a o n m) 5 968) (0 + 1 + 1 + 1) (0 + n + n + n * 4) S1 I1 L 47 [(0, .ref a), (1, .int (nI n)), (2, .ref o)] [] := by
    intro S1 I1 hT
    have h5' : Lay5 E S1 o := h5.ext hT.2.2.1 (by omega)
    have ha' : isO E S1 a 7 := ha.ext hT.2.2.1
    have e12 : I1 o 12 = nI m := (congrFun (hT.2.2.2.2.1 o (by omega)) 12).trans h12
    have ha2 : isO E (psh E S1 13 m) a 7 := ha'.ext (P := fun _ => True) Ext.pu
    refine V_aload_n (pc := 47) dX7_init_47 rfl ?_
    refine V_aload_n (pc := 48) dX7_init_48 rfl ?_
    refine V_getR (pc := 49) 5 10 dX7_init_49 flX7_34 (by decide) h5'.o h5'.R10 ?_
    refine V_aload_n (pc := 52) dX7_init_52 rfl ?_
    refine V_getIE (pc := 53) 5 12 dX7_init_53 flX7_37 (by decide) h5'.o (e12) ?_
    refine V_callS (pc := 56) (c_J7_copyOf_59c91 (n := m) h5'.A10 (by omega) (by omega) hT.2.2.2.1) dX7_init_56 mlX7_19 mkJ7_copyOf_59c91 rfl rfl ⟨Nat.le_of_ble_eq_true rfl, Nat.le_of_ble_eq_true rfl⟩ (Nat.le_of_ble_eq_true rfl) ⟨Nat.le_of_ble_eq_true rfl, by show _ ≤ 968; omega⟩ (fun r S' I' L' hp => ?_)
    obtain ⟨rfl, rfl, rfl, g, rfl, hg⟩ := hp
    refine V_putR (pc := 59) 7 4 dX7_init_59 flX7_40 (by decide) (by decide) (Or.inr ⟨rfl, rfl, rfl⟩) rfl rfl ha2 ?_
    exact s4 _ _ (hT.st ha ha1 ho (by omega) hg)
  have s2 : ∀ S1 I1, TI E S I L a o n m 2 S1 I1 L → V E kX7_init (rmOf 2 5 968) (QM E (PTx E S I L a o n m) 5 968) (0 + 1 + 1) (0 + n + n) S1 I1 L 33 [(0, .ref a), (1, .int (nI n)), (2, .ref o)] [] := by
    intro S1 I1 hT
    have h5' : Lay5 E S1 o := h5.ext hT.2.2.1 (by omega)
    have ha' : isO E S1 a 7 := ha.ext hT.2.2.1
    have ha2 : isO E (psh E S1 13 (n * 4)) a 7 := ha'.ext (P := fun _ => True) Ext.pu
    refine V_aload_n (pc := 33) dX7_init_33 rfl ?_
    refine V_aload_n (pc := 34) dX7_init_34 rfl ?_
    refine V_getR (pc := 35) 5 9 dX7_init_35 flX7_30 (by decide) h5'.o h5'.R9 ?_
    refine V_iload_n (pc := 38) dX7_init_38 rfl ?_
    refine V_iconst (pc := 39) (v := nI 4) dX7_init_39 (by decide) ?_
    refine V_imulN (pc := 40) dX7_init_40 ?_
    refine V_callS (pc := 41) (c_J7_copyOf_59c91 (n := n * 4) h5'.A9 (by omega) (by omega) hT.2.2.2.1) dX7_init_41 mlX7_19 mkJ7_copyOf_59c91 rfl rfl ⟨Nat.le_of_ble_eq_true rfl, Nat.le_of_ble_eq_true rfl⟩ (Nat.le_of_ble_eq_true rfl) ⟨Nat.le_of_ble_eq_true rfl, by show _ ≤ 968; omega⟩ (fun r S' I' L' hp => ?_)
    obtain ⟨rfl, rfl, rfl, g, rfl, hg⟩ := hp
    refine V_putR (pc := 44) 7 3 dX7_init_44 flX7_33 (by decide) (by decide) (Or.inr ⟨rfl, rfl, rfl⟩) rfl rfl ha2 ?_
    exact s3 _ _ (hT.st ha ha1 ho (by omega) hg)
  have s1 : ∀ S1 I1, TI E S I L a o n m 1 S1 I1 L → V E kX7_init (rmOf 2 5 968) (QM E (PTx E S I L a o n m) 5 968) (0 + 1) (0 + n) S1 I1 L 21 [(0, .ref a), (1, .int (nI n)), (2, .ref o)] [] := by
    intro S1 I1 hT
    have h5' : Lay5 E S1 o := h5.ext hT.2.2.1 (by omega)
    have ha' : isO E S1 a 7 := ha.ext hT.2.2.1
    have ha2 : isO E (psh E S1 13 n) a 7 := ha'.ext (P := fun _ => True) Ext.pu
    refine V_aload_n (pc := 21) dX7_init_21 rfl ?_
    refine V_aload_n (pc := 22) dX7_init_22 rfl ?_
    refine V_getR (pc := 23) 5 8 dX7_init_23 flX7_26 (by decide) h5'.o h5'.R8 ?_
    refine V_iload_n (pc := 26) dX7_init_26 rfl ?_
    refine V_callS (pc := 27) (c_J7_copyOf_59c91 (n := n) h5'.A8 (by omega) (by omega) hT.2.2.2.1) dX7_init_27 mlX7_19 mkJ7_copyOf_59c91 rfl rfl ⟨Nat.le_of_ble_eq_true rfl, Nat.le_of_ble_eq_true rfl⟩ (Nat.le_of_ble_eq_true rfl) ⟨Nat.le_of_ble_eq_true rfl, by show _ ≤ 968; omega⟩ (fun r S' I' L' hp => ?_)
    obtain ⟨rfl, rfl, rfl, g, rfl, hg⟩ := hp
    refine V_putR (pc := 30) 7 2 dX7_init_30 flX7_29 (by decide) (by decide) (Or.inr ⟨rfl, rfl, rfl⟩) rfl rfl ha2 ?_
    exact s2 _ _ (hT.st ha ha1 ho (by omega) hg)
  have hT0 : TI E S I L a o n m 0 S (up2 I a 0 (nI n)) L := ⟨rfl, rfl, Ext.rf, hB.u2 (by omega), fun x hx => up2_row (by omega), up2_self, fun k k1 k2 => by omega⟩
  have ha2 : isO E (psh E S 13 n) a 7 := ha.ext (P := fun _ => True) Ext.pu
  refine V_aload_n (pc := 0) dX7_init_0 rfl ?_
  refine V_objInit (pc := 1) dX7_init_1 mlX7_1 imO coO (Nat.le_of_ble_eq_true rfl) (Nat.le_of_ble_eq_true rfl) ?_
  refine V_aload_n (pc := 4) dX7_init_4 rfl ?_
  refine V_iload_n (pc := 5) dX7_init_5 rfl ?_
  refine V_putI (pc := 6) 7 0 dX7_init_6 flX7_7 (by decide) (by decide) (Or.inr ⟨rfl, rfl, rfl⟩) rfl rfl ha ?_
  refine V_aload_n (pc := 9) dX7_init_9 rfl ?_
  refine V_aload_n (pc := 10) dX7_init_10 rfl ?_
  refine V_getR (pc := 11) 5 7 dX7_init_11 flX7_13 (by decide) h5.o h5.R7 ?_
  refine V_iload_n (pc := 14) dX7_init_14 rfl ?_
  refine V_callS (pc := 15) (c_J7_copyOf_59c91 (n := n) h5.A7 (by omega) (by omega) hT0.2.2.2.1) dX7_init_15 mlX7_19 mkJ7_copyOf_59c91 rfl rfl ⟨Nat.le_of_ble_eq_true rfl, Nat.le_of_ble_eq_true rfl⟩ (Nat.le_of_ble_eq_true rfl) ⟨Nat.le_of_ble_eq_true rfl, by show _ ≤ 968; omega⟩ (fun r S' I' L' hp => ?_)
  obtain ⟨rfl, rfl, rfl, g, rfl, hg⟩ := hp
  refine V_putR (pc := 18) 7 1 dX7_init_18 flX7_25 (by decide) (by decide) (Or.inr ⟨rfl, rfl, rfl⟩) rfl rfl ha2 ?_
  exact s1 _ _ (hT0.st ha ha1 ho (by omega) hg)
end TX
