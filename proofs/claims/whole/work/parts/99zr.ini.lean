/-! CONSTRUCTORS that make rows alone (gen_init.py) -/
section IA
variable {E : EnT} {S : ST} {I : IT} {L : LT} {o : Nat}
def tb4 : List (Nat × Nat × Nat) := [(0, 0, 36), (1, 0, 36), (2, 0, 36), (3, 0, 6), (4, 0, 448), (5, 0, 6)]
theorem CA.l4 {S1 : ST} {I1 : IT} {L1 : LT} (h : CA E S o tb4 6 S1 I1 L1) (ho : isO E S o 4) : Lay4 E S1 o := ⟨ho.ext h.2.1, (h.2.2.2 0 (by decide)).1, (h.2.2.2 0 (by decide)).2, (h.2.2.2 1 (by decide)).1, (h.2.2.2 1 (by decide)).2, (h.2.2.2 2 (by decide)).1, (h.2.2.2 2 (by decide)).2, (h.2.2.2 3 (by decide)).1, (h.2.2.2 3 (by decide)).2, (h.2.2.2 4 (by decide)).1, (h.2.2.2 4 (by decide)).2, (h.2.2.2 5 (by decide)).1, (h.2.2.2 5 (by decide)).2⟩
abbrev P104 (E : EnT) (S : ST) (I : IT) (L : LT) (o : Nat) (r : Option Value) (S' : ST) (I' : IT) (L' : LT) : Prop := r = none ∧ CA E S o tb4 6 S' I' L' ∧ Lay4 E S' o ∧ I' = I ∧ L' = L
theorem c_X4_init (ho : isO E S o 4) (ho1 : o + 1 = eB E + S.1) (hB : BL E S I L) : C E kX4_init 1 6 568 [.ref o] S I L (P104 E S I L o) := by
  refine C_of (by decide) (Nat.le_of_ble_eq_true rfl) ?_
  have s6 : ∀ S1, CA E S o tb4 6 S1 I L → V E kX4_init (rmOf 1 6 568) (QM E (P104 E S I L o) 6 568) 6 568 S1 I L 53 [(0, .ref o)] [] := by
    intro S1 hT
    have hL := hT.l4 ho
    refine V_vret (pc := 53) dX4_init_53 rfl (by first | decide | omega) (by first | decide | omega) ?_
    exact ⟨rfl, hT, hL, rfl, rfl⟩
  have s5 : ∀ S1, CA E S o tb4 5 S1 I L → V E kX4_init (rmOf 1 6 568) (QM E (P104 E S I L o) 6 568) 5 562 S1 I L 45 [(0, .ref o)] [] := by
    intro S1 hT
    have hT2 : CA E S o tb4 5 S1 I L := hT
    have hf := hT2.2.2.1.fr
    have hO : isO E S1 o 4 := ho.ext hT.2.1
    have hO2 : isO E (psh E S1 (13 + 0) 6) o 4 := hO.ext (P := fun _ => True) Ext.pu
    refine V_aload_n (pc := 45) dX4_init_45 rfl ?_
    refine V_bipush (pc := 46) (v := nI 6) dX4_init_46 (by decide) ?_
    refine V_newarray (pc := 48) (t := 0) dX4_init_48 (by decide) acI (by first | decide | omega) (by assumption) (by first | decide | omega) (by first | decide | omega) ?_
    refine V_putR (pc := 50) 4 5 dX4_init_50 flX4_27 (by decide) (by decide) (Or.inr ⟨rfl, rfl, rfl⟩) rfl rfl (by assumption) ?_
    exact s6 _ (hT2.st (k := 5) (t := 0) (n := 6) ho1 rfl (by decide))
  have s4 : ∀ S1, CA E S o tb4 4 S1 I L → V E kX4_init (rmOf 1 6 568) (QM E (P104 E S I L o) 6 568) 4 114 S1 I L 36 [(0, .ref o)] [] := by
    intro S1 hT
    have hT2 : CA E S o tb4 4 S1 I L := hT
    have hf := hT2.2.2.1.fr
    have hO : isO E S1 o 4 := ho.ext hT.2.1
    have hO2 : isO E (psh E S1 (13 + 0) 448) o 4 := hO.ext (P := fun _ => True) Ext.pu
    refine V_aload_n (pc := 36) dX4_init_36 rfl ?_
    refine V_sipush (pc := 37) (v := nI 448) dX4_init_37 (by decide) ?_
    refine V_newarray (pc := 40) (t := 0) dX4_init_40 (by decide) acI (by first | decide | omega) (by assumption) (by first | decide | omega) (by first | decide | omega) ?_
    refine V_putR (pc := 42) 4 4 dX4_init_42 flX4_24 (by decide) (by decide) (Or.inr ⟨rfl, rfl, rfl⟩) rfl rfl (by assumption) ?_
    exact s5 _ (hT2.st (k := 4) (t := 0) (n := 448) ho1 rfl (by decide))
  have s3 : ∀ S1, CA E S o tb4 3 S1 I L → V E kX4_init (rmOf 1 6 568) (QM E (P104 E S I L o) 6 568) 3 108 S1 I L 28 [(0, .ref o)] [] := by
    intro S1 hT
    have hT2 : CA E S o tb4 3 S1 I L := hT
    have hf := hT2.2.2.1.fr
    have hO : isO E S1 o 4 := ho.ext hT.2.1
    have hO2 : isO E (psh E S1 (13 + 0) 6) o 4 := hO.ext (P := fun _ => True) Ext.pu
    refine V_aload_n (pc := 28) dX4_init_28 rfl ?_
    refine V_bipush (pc := 29) (v := nI 6) dX4_init_29 (by decide) ?_
    refine V_newarray (pc := 31) (t := 0) dX4_init_31 (by decide) acI (by first | decide | omega) (by assumption) (by first | decide | omega) (by first | decide | omega) ?_
    refine V_putR (pc := 33) 4 3 dX4_init_33 flX4_21 (by decide) (by decide) (Or.inr ⟨rfl, rfl, rfl⟩) rfl rfl (by assumption) ?_
    exact s4 _ (hT2.st (k := 3) (t := 0) (n := 6) ho1 rfl (by decide))
  have s2 : ∀ S1, CA E S o tb4 2 S1 I L → V E kX4_init (rmOf 1 6 568) (QM E (P104 E S I L o) 6 568) 2 72 S1 I L 20 [(0, .ref o)] [] := by
    intro S1 hT
    have hT2 : CA E S o tb4 2 S1 I L := hT
    have hf := hT2.2.2.1.fr
    have hO : isO E S1 o 4 := ho.ext hT.2.1
    have hO2 : isO E (psh E S1 (13 + 0) 36) o 4 := hO.ext (P := fun _ => True) Ext.pu
    refine V_aload_n (pc := 20) dX4_init_20 rfl ?_
    refine V_bipush (pc := 21) (v := nI 36) dX4_init_21 (by decide) ?_
    refine V_newarray (pc := 23) (t := 0) dX4_init_23 (by decide) acI (by first | decide | omega) (by assumption) (by first | decide | omega) (by first | decide | omega) ?_
    refine V_putR (pc := 25) 4 2 dX4_init_25 flX4_18 (by decide) (by decide) (Or.inr ⟨rfl, rfl, rfl⟩) rfl rfl (by assumption) ?_
    exact s3 _ (hT2.st (k := 2) (t := 0) (n := 36) ho1 rfl (by decide))
  have s1 : ∀ S1, CA E S o tb4 1 S1 I L → V E kX4_init (rmOf 1 6 568) (QM E (P104 E S I L o) 6 568) 1 36 S1 I L 12 [(0, .ref o)] [] := by
    intro S1 hT
    have hT2 : CA E S o tb4 1 S1 I L := hT
    have hf := hT2.2.2.1.fr
    have hO : isO E S1 o 4 := ho.ext hT.2.1
    have hO2 : isO E (psh E S1 (13 + 0) 36) o 4 := hO.ext (P := fun _ => True) Ext.pu
    refine V_aload_n (pc := 12) dX4_init_12 rfl ?_
    refine V_bipush (pc := 13) (v := nI 36) dX4_init_13 (by decide) ?_
    refine V_newarray (pc := 15) (t := 0) dX4_init_15 (by decide) acI (by first | decide | omega) (by assumption) (by first | decide | omega) (by first | decide | omega) ?_
    refine V_putR (pc := 17) 4 1 dX4_init_17 flX4_15 (by decide) (by decide) (Or.inr ⟨rfl, rfl, rfl⟩) rfl rfl (by assumption) ?_
    exact s2 _ (hT2.st (k := 1) (t := 0) (n := 36) ho1 rfl (by decide))
  have s0 : ∀ S1, CA E S o tb4 0 S1 I L → V E kX4_init (rmOf 1 6 568) (QM E (P104 E S I L o) 6 568) 0 0 S1 I L 0 [(0, .ref o)] [] := by
    intro S1 hT
    have hT2 : CA E S o tb4 0 S1 I L := hT
    have hf := hT2.2.2.1.fr
    have hO : isO E S1 o 4 := ho.ext hT.2.1
    have hO2 : isO E (psh E S1 (13 + 0) 36) o 4 := hO.ext (P := fun _ => True) Ext.pu
    refine V_aload_n (pc := 0) dX4_init_0 rfl ?_
    refine V_objInit (pc := 1) dX4_init_1 mlX4_3 imO coO (Nat.le_of_ble_eq_true rfl) (Nat.le_of_ble_eq_true rfl) ?_
    refine V_aload_n (pc := 4) dX4_init_4 rfl ?_
    refine V_bipush (pc := 5) (v := nI 36) dX4_init_5 (by decide) ?_
    refine V_newarray (pc := 7) (t := 0) dX4_init_7 (by decide) acI (by first | decide | omega) (by assumption) (by first | decide | omega) (by first | decide | omega) ?_
    refine V_putR (pc := 9) 4 0 dX4_init_9 flX4_9 (by decide) (by decide) (Or.inr ⟨rfl, rfl, rfl⟩) rfl rfl (by assumption) ?_
    exact s1 _ (hT2.st (k := 0) (t := 0) (n := 36) ho1 rfl (by decide))
  exact s0 S ⟨rfl, Ext.rf, hB, fun j hj => absurd hj (Nat.not_lt_zero j)⟩
def tb5 : List (Nat × Nat × Nat) := [(0, 0, 401), (1, 0, 401), (2, 0, 401), (7, 0, 12), (8, 0, 12), (9, 0, 48), (10, 0, 448), (11, 0, 448)]
theorem CA.l5 {S1 : ST} {I1 : IT} {L1 : LT} (h : CA E S o tb5 8 S1 I1 L1) (ho : isO E S o 5) : Lay5 E S1 o := ⟨ho.ext h.2.1, (h.2.2.2 0 (by decide)).1, (h.2.2.2 0 (by decide)).2, (h.2.2.2 1 (by decide)).1, (h.2.2.2 1 (by decide)).2, (h.2.2.2 2 (by decide)).1, (h.2.2.2 2 (by decide)).2, (h.2.2.2 3 (by decide)).1, (h.2.2.2 3 (by decide)).2, (h.2.2.2 4 (by decide)).1, (h.2.2.2 4 (by decide)).2, (h.2.2.2 5 (by decide)).1, (h.2.2.2 5 (by decide)).2, (h.2.2.2 6 (by decide)).1, (h.2.2.2 6 (by decide)).2, (h.2.2.2 7 (by decide)).1, (h.2.2.2 7 (by decide)).2⟩
abbrev P105 (E : EnT) (S : ST) (I : IT) (L : LT) (o : Nat) (r : Option Value) (S' : ST) (I' : IT) (L' : LT) : Prop := r = none ∧ CA E S o tb5 8 S' I' L' ∧ Lay5 E S' o ∧ I' = (up2 (up2 (up2 (up2 (up2 (up2 I o 3 (nI 0)) o 4 (nI 0)) o 5 (nI 0)) o 6 (nI 0)) o 12 (nI 0)) o 13 (-1)) ∧ L' = L
theorem c_X5_init (ho : isO E S o 5) (ho1 : o + 1 = eB E + S.1) (hB : BL E S I L) : C E kX5_init 1 8 2171 [.ref o] S I L (P105 E S I L o) := by
  refine C_of (by decide) (Nat.le_of_ble_eq_true rfl) ?_
  have s8 : ∀ S1, CA E S o tb5 8 S1 (up2 (up2 (up2 (up2 I o 3 (nI 0)) o 4 (nI 0)) o 5 (nI 0)) o 6 (nI 0)) L → V E kX5_init (rmOf 1 8 2171) (QM E (P105 E S I L o) 8 2171) 8 2171 S1 (up2 (up2 (up2 (up2 I o 3 (nI 0)) o 4 (nI 0)) o 5 (nI 0)) o 6 (nI 0)) L 93 [(0, .ref o)] [] := by
    intro S1 hT
    have hL := hT.l5 ho
    refine V_aload_n (pc := 93) dX5_init_93 rfl ?_
    refine V_iconst (pc := 94) (v := nI 0) dX5_init_94 (by decide) ?_
    refine V_putI (pc := 95) 5 12 dX5_init_95 flX5_52 (by decide) (by decide) (Or.inl rfl) rfl rfl hL.o ?_
    refine V_aload_n (pc := 98) dX5_init_98 rfl ?_
    refine V_iconst (pc := 99) (v := (-1)) dX5_init_99 (by decide) ?_
    refine V_putI (pc := 100) 5 13 dX5_init_100 flX5_55 (by decide) (by decide) (Or.inl rfl) rfl rfl hL.o ?_
    refine V_vret (pc := 103) dX5_init_103 rfl (by first | decide | omega) (by first | decide | omega) ?_
    exact ⟨rfl, ((hT.u ho1 (by omega)).u ho1 (by omega)), hL, rfl, rfl⟩
  have s7 : ∀ S1, CA E S o tb5 7 S1 (up2 (up2 (up2 (up2 I o 3 (nI 0)) o 4 (nI 0)) o 5 (nI 0)) o 6 (nI 0)) L → V E kX5_init (rmOf 1 8 2171) (QM E (P105 E S I L o) 8 2171) 7 1723 S1 (up2 (up2 (up2 (up2 I o 3 (nI 0)) o 4 (nI 0)) o 5 (nI 0)) o 6 (nI 0)) L 84 [(0, .ref o)] [] := by
    intro S1 hT
    have hT2 : CA E S o tb5 7 S1 (up2 (up2 (up2 (up2 I o 3 (nI 0)) o 4 (nI 0)) o 5 (nI 0)) o 6 (nI 0)) L := hT
    have hf := hT2.2.2.1.fr
    have hO : isO E S1 o 5 := ho.ext hT.2.1
    have hO2 : isO E (psh E S1 (13 + 0) 448) o 5 := hO.ext (P := fun _ => True) Ext.pu
    refine V_aload_n (pc := 84) dX5_init_84 rfl ?_
    refine V_sipush (pc := 85) (v := nI 448) dX5_init_85 (by decide) ?_
    refine V_newarray (pc := 88) (t := 0) dX5_init_88 (by decide) acI (by first | decide | omega) (by assumption) (by first | decide | omega) (by first | decide | omega) ?_
    refine V_putR (pc := 90) 5 11 dX5_init_90 flX5_49 (by decide) (by decide) (Or.inr ⟨rfl, rfl, rfl⟩) rfl rfl (by assumption) ?_
    exact s8 _ (hT2.st (k := 11) (t := 0) (n := 448) ho1 rfl (by decide))
  have s6 : ∀ S1, CA E S o tb5 6 S1 (up2 (up2 (up2 (up2 I o 3 (nI 0)) o 4 (nI 0)) o 5 (nI 0)) o 6 (nI 0)) L → V E kX5_init (rmOf 1 8 2171) (QM E (P105 E S I L o) 8 2171) 6 1275 S1 (up2 (up2 (up2 (up2 I o 3 (nI 0)) o 4 (nI 0)) o 5 (nI 0)) o 6 (nI 0)) L 75 [(0, .ref o)] [] := by
    intro S1 hT
    have hT2 : CA E S o tb5 6 S1 (up2 (up2 (up2 (up2 I o 3 (nI 0)) o 4 (nI 0)) o 5 (nI 0)) o 6 (nI 0)) L := hT
    have hf := hT2.2.2.1.fr
    have hO : isO E S1 o 5 := ho.ext hT.2.1
    have hO2 : isO E (psh E S1 (13 + 0) 448) o 5 := hO.ext (P := fun _ => True) Ext.pu
    refine V_aload_n (pc := 75) dX5_init_75 rfl ?_
    refine V_sipush (pc := 76) (v := nI 448) dX5_init_76 (by decide) ?_
    refine V_newarray (pc := 79) (t := 0) dX5_init_79 (by decide) acI (by first | decide | omega) (by assumption) (by first | decide | omega) (by first | decide | omega) ?_
    refine V_putR (pc := 81) 5 10 dX5_init_81 flX5_46 (by decide) (by decide) (Or.inr ⟨rfl, rfl, rfl⟩) rfl rfl (by assumption) ?_
    exact s7 _ (hT2.st (k := 10) (t := 0) (n := 448) ho1 rfl (by decide))
  have s5 : ∀ S1, CA E S o tb5 5 S1 (up2 (up2 (up2 (up2 I o 3 (nI 0)) o 4 (nI 0)) o 5 (nI 0)) o 6 (nI 0)) L → V E kX5_init (rmOf 1 8 2171) (QM E (P105 E S I L o) 8 2171) 5 1227 S1 (up2 (up2 (up2 (up2 I o 3 (nI 0)) o 4 (nI 0)) o 5 (nI 0)) o 6 (nI 0)) L 67 [(0, .ref o)] [] := by
    intro S1 hT
    have hT2 : CA E S o tb5 5 S1 (up2 (up2 (up2 (up2 I o 3 (nI 0)) o 4 (nI 0)) o 5 (nI 0)) o 6 (nI 0)) L := hT
    have hf := hT2.2.2.1.fr
    have hO : isO E S1 o 5 := ho.ext hT.2.1
    have hO2 : isO E (psh E S1 (13 + 0) 48) o 5 := hO.ext (P := fun _ => True) Ext.pu
    refine V_aload_n (pc := 67) dX5_init_67 rfl ?_
    refine V_bipush (pc := 68) (v := nI 48) dX5_init_68 (by decide) ?_
    refine V_newarray (pc := 70) (t := 0) dX5_init_70 (by decide) acI (by first | decide | omega) (by assumption) (by first | decide | omega) (by first | decide | omega) ?_
    refine V_putR (pc := 72) 5 9 dX5_init_72 flX5_43 (by decide) (by decide) (Or.inr ⟨rfl, rfl, rfl⟩) rfl rfl (by assumption) ?_
    exact s6 _ (hT2.st (k := 9) (t := 0) (n := 48) ho1 rfl (by decide))
  have s4 : ∀ S1, CA E S o tb5 4 S1 (up2 (up2 (up2 (up2 I o 3 (nI 0)) o 4 (nI 0)) o 5 (nI 0)) o 6 (nI 0)) L → V E kX5_init (rmOf 1 8 2171) (QM E (P105 E S I L o) 8 2171) 4 1215 S1 (up2 (up2 (up2 (up2 I o 3 (nI 0)) o 4 (nI 0)) o 5 (nI 0)) o 6 (nI 0)) L 59 [(0, .ref o)] [] := by
    intro S1 hT
    have hT2 : CA E S o tb5 4 S1 (up2 (up2 (up2 (up2 I o 3 (nI 0)) o 4 (nI 0)) o 5 (nI 0)) o 6 (nI 0)) L := hT
    have hf := hT2.2.2.1.fr
    have hO : isO E S1 o 5 := ho.ext hT.2.1
    have hO2 : isO E (psh E S1 (13 + 0) 12) o 5 := hO.ext (P := fun _ => True) Ext.pu
    refine V_aload_n (pc := 59) dX5_init_59 rfl ?_
    refine V_bipush (pc := 60) (v := nI 12) dX5_init_60 (by decide) ?_
    refine V_newarray (pc := 62) (t := 0) dX5_init_62 (by decide) acI (by first | decide | omega) (by assumption) (by first | decide | omega) (by first | decide | omega) ?_
    refine V_putR (pc := 64) 5 8 dX5_init_64 flX5_40 (by decide) (by decide) (Or.inr ⟨rfl, rfl, rfl⟩) rfl rfl (by assumption) ?_
    exact s5 _ (hT2.st (k := 8) (t := 0) (n := 12) ho1 rfl (by decide))
  have s3 : ∀ S1, CA E S o tb5 3 S1 I L → V E kX5_init (rmOf 1 8 2171) (QM E (P105 E S I L o) 8 2171) 3 1203 S1 I L 31 [(0, .ref o)] [] := by
    intro S1 hT
    have hT2 : CA E S o tb5 3 S1 (up2 (up2 (up2 (up2 I o 3 (nI 0)) o 4 (nI 0)) o 5 (nI 0)) o 6 (nI 0)) L := ((((hT.u ho1 (by omega)).u ho1 (by omega)).u ho1 (by omega)).u ho1 (by omega))
    have hf := hT2.2.2.1.fr
    have hO : isO E S1 o 5 := ho.ext hT.2.1
    have hO2 : isO E (psh E S1 (13 + 0) 12) o 5 := hO.ext (P := fun _ => True) Ext.pu
    refine V_aload_n (pc := 31) dX5_init_31 rfl ?_
    refine V_iconst (pc := 32) (v := nI 0) dX5_init_32 (by decide) ?_
    refine V_putI (pc := 33) 5 3 dX5_init_33 flX5_23 (by decide) (by decide) (Or.inl rfl) rfl rfl (by assumption) ?_
    refine V_aload_n (pc := 36) dX5_init_36 rfl ?_
    refine V_iconst (pc := 37) (v := nI 0) dX5_init_37 (by decide) ?_
    refine V_putI (pc := 38) 5 4 dX5_init_38 flX5_27 (by decide) (by decide) (Or.inl rfl) rfl rfl (by assumption) ?_
    refine V_aload_n (pc := 41) dX5_init_41 rfl ?_
    refine V_iconst (pc := 42) (v := nI 0) dX5_init_42 (by decide) ?_
    refine V_putI (pc := 43) 5 5 dX5_init_43 flX5_30 (by decide) (by decide) (Or.inl rfl) rfl rfl (by assumption) ?_
    refine V_aload_n (pc := 46) dX5_init_46 rfl ?_
    refine V_iconst (pc := 47) (v := nI 0) dX5_init_47 (by decide) ?_
    refine V_putI (pc := 48) 5 6 dX5_init_48 flX5_33 (by decide) (by decide) (Or.inl rfl) rfl rfl (by assumption) ?_
    refine V_aload_n (pc := 51) dX5_init_51 rfl ?_
    refine V_bipush (pc := 52) (v := nI 12) dX5_init_52 (by decide) ?_
    refine V_newarray (pc := 54) (t := 0) dX5_init_54 (by decide) acI (by first | decide | omega) (by assumption) (by first | decide | omega) (by first | decide | omega) ?_
    refine V_putR (pc := 56) 5 7 dX5_init_56 flX5_37 (by decide) (by decide) (Or.inr ⟨rfl, rfl, rfl⟩) rfl rfl (by assumption) ?_
    exact s4 _ (hT2.st (k := 7) (t := 0) (n := 12) ho1 rfl (by decide))
  have s2 : ∀ S1, CA E S o tb5 2 S1 I L → V E kX5_init (rmOf 1 8 2171) (QM E (P105 E S I L o) 8 2171) 2 802 S1 I L 22 [(0, .ref o)] [] := by
    intro S1 hT
    have hT2 : CA E S o tb5 2 S1 I L := hT
    have hf := hT2.2.2.1.fr
    have hO : isO E S1 o 5 := ho.ext hT.2.1
    have hO2 : isO E (psh E S1 (13 + 0) 401) o 5 := hO.ext (P := fun _ => True) Ext.pu
    refine V_aload_n (pc := 22) dX5_init_22 rfl ?_
    refine V_sipush (pc := 23) (v := nI 401) dX5_init_23 (by decide) ?_
    refine V_newarray (pc := 26) (t := 0) dX5_init_26 (by decide) acI (by first | decide | omega) (by assumption) (by first | decide | omega) (by first | decide | omega) ?_
    refine V_putR (pc := 28) 5 2 dX5_init_28 flX5_20 (by decide) (by decide) (Or.inr ⟨rfl, rfl, rfl⟩) rfl rfl (by assumption) ?_
    exact s3 _ (hT2.st (k := 2) (t := 0) (n := 401) ho1 rfl (by decide))
  have s1 : ∀ S1, CA E S o tb5 1 S1 I L → V E kX5_init (rmOf 1 8 2171) (QM E (P105 E S I L o) 8 2171) 1 401 S1 I L 13 [(0, .ref o)] [] := by
    intro S1 hT
    have hT2 : CA E S o tb5 1 S1 I L := hT
    have hf := hT2.2.2.1.fr
    have hO : isO E S1 o 5 := ho.ext hT.2.1
    have hO2 : isO E (psh E S1 (13 + 0) 401) o 5 := hO.ext (P := fun _ => True) Ext.pu
    refine V_aload_n (pc := 13) dX5_init_13 rfl ?_
    refine V_sipush (pc := 14) (v := nI 401) dX5_init_14 (by decide) ?_
    refine V_newarray (pc := 17) (t := 0) dX5_init_17 (by decide) acI (by first | decide | omega) (by assumption) (by first | decide | omega) (by first | decide | omega) ?_
    refine V_putR (pc := 19) 5 1 dX5_init_19 flX5_17 (by decide) (by decide) (Or.inr ⟨rfl, rfl, rfl⟩) rfl rfl (by assumption) ?_
    exact s2 _ (hT2.st (k := 1) (t := 0) (n := 401) ho1 rfl (by decide))
  have s0 : ∀ S1, CA E S o tb5 0 S1 I L → V E kX5_init (rmOf 1 8 2171) (QM E (P105 E S I L o) 8 2171) 0 0 S1 I L 0 [(0, .ref o)] [] := by
    intro S1 hT
    have hT2 : CA E S o tb5 0 S1 I L := hT
    have hf := hT2.2.2.1.fr
    have hO : isO E S1 o 5 := ho.ext hT.2.1
    have hO2 : isO E (psh E S1 (13 + 0) 401) o 5 := hO.ext (P := fun _ => True) Ext.pu
    refine V_aload_n (pc := 0) dX5_init_0 rfl ?_
    refine V_objInit (pc := 1) dX5_init_1 mlX5_7 imO coO (Nat.le_of_ble_eq_true rfl) (Nat.le_of_ble_eq_true rfl) ?_
    refine V_aload_n (pc := 4) dX5_init_4 rfl ?_
    refine V_sipush (pc := 5) (v := nI 401) dX5_init_5 (by decide) ?_
    refine V_newarray (pc := 8) (t := 0) dX5_init_8 (by decide) acI (by first | decide | omega) (by assumption) (by first | decide | omega) (by first | decide | omega) ?_
    refine V_putR (pc := 10) 5 0 dX5_init_10 flX5_13 (by decide) (by decide) (Or.inr ⟨rfl, rfl, rfl⟩) rfl rfl (by assumption) ?_
    exact s1 _ (hT2.st (k := 0) (t := 0) (n := 401) ho1 rfl (by decide))
  exact s0 S ⟨rfl, Ext.rf, hB, fun j hj => absurd hj (Nat.not_lt_zero j)⟩
def tb6 : List (Nat × Nat × Nat) := [(0, 0, 64)]
theorem CA.l6 {S1 : ST} {I1 : IT} {L1 : LT} (h : CA E S o tb6 1 S1 I1 L1) (ho : isO E S o 6) : Lay6 E S1 o := ⟨ho.ext h.2.1, (h.2.2.2 0 (by decide)).1, (h.2.2.2 0 (by decide)).2⟩
abbrev P106 (E : EnT) (S : ST) (I : IT) (L : LT) (o : Nat) (r : Option Value) (S' : ST) (I' : IT) (L' : LT) : Prop := r = none ∧ CA E S o tb6 1 S' I' L' ∧ Lay6 E S' o ∧ I' = I ∧ L' = L
theorem c_X6_init (ho : isO E S o 6) (ho1 : o + 1 = eB E + S.1) (hB : BL E S I L) : C E kX6_init 1 1 64 [.ref o] S I L (P106 E S I L o) := by
  refine C_of (by decide) (Nat.le_of_ble_eq_true rfl) ?_
  have s1 : ∀ S1, CA E S o tb6 1 S1 I L → V E kX6_init (rmOf 1 1 64) (QM E (P106 E S I L o) 1 64) 1 64 S1 I L 12 [(0, .ref o)] [] := by
    intro S1 hT
    have hL := hT.l6 ho
    refine V_vret (pc := 12) dX6_init_12 rfl (by first | decide | omega) (by first | decide | omega) ?_
    exact ⟨rfl, hT, hL, rfl, rfl⟩
  have s0 : ∀ S1, CA E S o tb6 0 S1 I L → V E kX6_init (rmOf 1 1 64) (QM E (P106 E S I L o) 1 64) 0 0 S1 I L 0 [(0, .ref o)] [] := by
    intro S1 hT
    have hT2 : CA E S o tb6 0 S1 I L := hT
    have hf := hT2.2.2.1.fr
    have hO : isO E S1 o 6 := ho.ext hT.2.1
    have hO2 : isO E (psh E S1 (13 + 0) 64) o 6 := hO.ext (P := fun _ => True) Ext.pu
    refine V_aload_n (pc := 0) dX6_init_0 rfl ?_
    refine V_objInit (pc := 1) dX6_init_1 mlX6_5 imO coO (Nat.le_of_ble_eq_true rfl) (Nat.le_of_ble_eq_true rfl) ?_
    refine V_aload_n (pc := 4) dX6_init_4 rfl ?_
    refine V_bipush (pc := 5) (v := nI 64) dX6_init_5 (by decide) ?_
    refine V_newarray (pc := 7) (t := 0) dX6_init_7 (by decide) acI (by first | decide | omega) (by assumption) (by first | decide | omega) (by first | decide | omega) ?_
    refine V_putR (pc := 9) 6 0 dX6_init_9 flX6_11 (by decide) (by decide) (Or.inr ⟨rfl, rfl, rfl⟩) rfl rfl (by assumption) ?_
    exact s1 _ (hT2.st (k := 0) (t := 0) (n := 64) ho1 rfl (by decide))
  exact s0 S ⟨rfl, Ext.rf, hB, fun j hj => absurd hj (Nat.not_lt_zero j)⟩
def tb8 : List (Nat × Nat × Nat) := [(0, 0, 2048), (1, 0, 256), (2, 0, 256), (3, 0, 8), (4, 0, 8)]
theorem CA.l8 {S1 : ST} {I1 : IT} {L1 : LT} (h : CA E S o tb8 5 S1 I1 L1) (ho : isO E S o 8) : Lay8 E S1 o := ⟨ho.ext h.2.1, (h.2.2.2 0 (by decide)).1, (h.2.2.2 0 (by decide)).2, (h.2.2.2 1 (by decide)).1, (h.2.2.2 1 (by decide)).2, (h.2.2.2 2 (by decide)).1, (h.2.2.2 2 (by decide)).2, (h.2.2.2 3 (by decide)).1, (h.2.2.2 3 (by decide)).2, (h.2.2.2 4 (by decide)).1, (h.2.2.2 4 (by decide)).2⟩
abbrev P108 (E : EnT) (S : ST) (I : IT) (L : LT) (o : Nat) (r : Option Value) (S' : ST) (I' : IT) (L' : LT) : Prop := r = none ∧ CA E S o tb8 5 S' I' L' ∧ Lay8 E S' o ∧ I' = (up2 (up2 (up2 I o 5 (nI 0)) o 6 (nI 0)) o 7 (nI 0)) ∧ L' = L
theorem c_X8_init (ho : isO E S o 8) (ho1 : o + 1 = eB E + S.1) (hB : BL E S I L) : C E kX8_init 1 5 2576 [.ref o] S I L (P108 E S I L o) := by
  refine C_of (by decide) (Nat.le_of_ble_eq_true rfl) ?_
  have s5 : ∀ S1, CA E S o tb8 5 S1 I L → V E kX8_init (rmOf 1 5 2576) (QM E (P108 E S I L o) 5 2576) 5 2576 S1 I L 47 [(0, .ref o)] [] := by
    intro S1 hT
    have hL := hT.l8 ho
    refine V_aload_n (pc := 47) dX8_init_47 rfl ?_
    refine V_iconst (pc := 48) (v := nI 0) dX8_init_48 (by decide) ?_
    refine V_putI (pc := 49) 8 5 dX8_init_49 flX8_27 (by decide) (by decide) (Or.inl rfl) rfl rfl hL.o ?_
    refine V_aload_n (pc := 52) dX8_init_52 rfl ?_
    refine V_iconst (pc := 53) (v := nI 0) dX8_init_53 (by decide) ?_
    refine V_putI (pc := 54) 8 6 dX8_init_54 flX8_31 (by decide) (by decide) (Or.inl rfl) rfl rfl hL.o ?_
    refine V_aload_n (pc := 57) dX8_init_57 rfl ?_
    refine V_iconst (pc := 58) (v := nI 0) dX8_init_58 (by decide) ?_
    refine V_putI (pc := 59) 8 7 dX8_init_59 flX8_34 (by decide) (by decide) (Or.inl rfl) rfl rfl hL.o ?_
    refine V_vret (pc := 62) dX8_init_62 rfl (by first | decide | omega) (by first | decide | omega) ?_
    exact ⟨rfl, (((hT.u ho1 (by omega)).u ho1 (by omega)).u ho1 (by omega)), hL, rfl, rfl⟩
  have s4 : ∀ S1, CA E S o tb8 4 S1 I L → V E kX8_init (rmOf 1 5 2576) (QM E (P108 E S I L o) 5 2576) 4 2568 S1 I L 39 [(0, .ref o)] [] := by
    intro S1 hT
    have hT2 : CA E S o tb8 4 S1 I L := hT
    have hf := hT2.2.2.1.fr
    have hO : isO E S1 o 8 := ho.ext hT.2.1
    have hO2 : isO E (psh E S1 (13 + 0) 8) o 8 := hO.ext (P := fun _ => True) Ext.pu
    refine V_aload_n (pc := 39) dX8_init_39 rfl ?_
    refine V_bipush (pc := 40) (v := nI 8) dX8_init_40 (by decide) ?_
    refine V_newarray (pc := 42) (t := 0) dX8_init_42 (by decide) acI (by first | decide | omega) (by assumption) (by first | decide | omega) (by first | decide | omega) ?_
    refine V_putR (pc := 44) 8 4 dX8_init_44 flX8_24 (by decide) (by decide) (Or.inr ⟨rfl, rfl, rfl⟩) rfl rfl (by assumption) ?_
    exact s5 _ (hT2.st (k := 4) (t := 0) (n := 8) ho1 rfl (by decide))
  have s3 : ∀ S1, CA E S o tb8 3 S1 I L → V E kX8_init (rmOf 1 5 2576) (QM E (P108 E S I L o) 5 2576) 3 2560 S1 I L 31 [(0, .ref o)] [] := by
    intro S1 hT
    have hT2 : CA E S o tb8 3 S1 I L := hT
    have hf := hT2.2.2.1.fr
    have hO : isO E S1 o 8 := ho.ext hT.2.1
    have hO2 : isO E (psh E S1 (13 + 0) 8) o 8 := hO.ext (P := fun _ => True) Ext.pu
    refine V_aload_n (pc := 31) dX8_init_31 rfl ?_
    refine V_bipush (pc := 32) (v := nI 8) dX8_init_32 (by decide) ?_
    refine V_newarray (pc := 34) (t := 0) dX8_init_34 (by decide) acI (by first | decide | omega) (by assumption) (by first | decide | omega) (by first | decide | omega) ?_
    refine V_putR (pc := 36) 8 3 dX8_init_36 flX8_21 (by decide) (by decide) (Or.inr ⟨rfl, rfl, rfl⟩) rfl rfl (by assumption) ?_
    exact s4 _ (hT2.st (k := 3) (t := 0) (n := 8) ho1 rfl (by decide))
  have s2 : ∀ S1, CA E S o tb8 2 S1 I L → V E kX8_init (rmOf 1 5 2576) (QM E (P108 E S I L o) 5 2576) 2 2304 S1 I L 22 [(0, .ref o)] [] := by
    intro S1 hT
    have hT2 : CA E S o tb8 2 S1 I L := hT
    have hf := hT2.2.2.1.fr
    have hO : isO E S1 o 8 := ho.ext hT.2.1
    have hO2 : isO E (psh E S1 (13 + 0) 256) o 8 := hO.ext (P := fun _ => True) Ext.pu
    refine V_aload_n (pc := 22) dX8_init_22 rfl ?_
    refine V_sipush (pc := 23) (v := nI 256) dX8_init_23 (by decide) ?_
    refine V_newarray (pc := 26) (t := 0) dX8_init_26 (by decide) acI (by first | decide | omega) (by assumption) (by first | decide | omega) (by first | decide | omega) ?_
    refine V_putR (pc := 28) 8 2 dX8_init_28 flX8_18 (by decide) (by decide) (Or.inr ⟨rfl, rfl, rfl⟩) rfl rfl (by assumption) ?_
    exact s3 _ (hT2.st (k := 2) (t := 0) (n := 256) ho1 rfl (by decide))
  have s1 : ∀ S1, CA E S o tb8 1 S1 I L → V E kX8_init (rmOf 1 5 2576) (QM E (P108 E S I L o) 5 2576) 1 2048 S1 I L 13 [(0, .ref o)] [] := by
    intro S1 hT
    have hT2 : CA E S o tb8 1 S1 I L := hT
    have hf := hT2.2.2.1.fr
    have hO : isO E S1 o 8 := ho.ext hT.2.1
    have hO2 : isO E (psh E S1 (13 + 0) 256) o 8 := hO.ext (P := fun _ => True) Ext.pu
    refine V_aload_n (pc := 13) dX8_init_13 rfl ?_
    refine V_sipush (pc := 14) (v := nI 256) dX8_init_14 (by decide) ?_
    refine V_newarray (pc := 17) (t := 0) dX8_init_17 (by decide) acI (by first | decide | omega) (by assumption) (by first | decide | omega) (by first | decide | omega) ?_
    refine V_putR (pc := 19) 8 1 dX8_init_19 flX8_15 (by decide) (by decide) (Or.inr ⟨rfl, rfl, rfl⟩) rfl rfl (by assumption) ?_
    exact s2 _ (hT2.st (k := 1) (t := 0) (n := 256) ho1 rfl (by decide))
  have s0 : ∀ S1, CA E S o tb8 0 S1 I L → V E kX8_init (rmOf 1 5 2576) (QM E (P108 E S I L o) 5 2576) 0 0 S1 I L 0 [(0, .ref o)] [] := by
    intro S1 hT
    have hT2 : CA E S o tb8 0 S1 I L := hT
    have hf := hT2.2.2.1.fr
    have hO : isO E S1 o 8 := ho.ext hT.2.1
    have hO2 : isO E (psh E S1 (13 + 0) 2048) o 8 := hO.ext (P := fun _ => True) Ext.pu
    refine V_aload_n (pc := 0) dX8_init_0 rfl ?_
    refine V_objInit (pc := 1) dX8_init_1 mlX8_3 imO coO (Nat.le_of_ble_eq_true rfl) (Nat.le_of_ble_eq_true rfl) ?_
    refine V_aload_n (pc := 4) dX8_init_4 rfl ?_
    refine V_sipush (pc := 5) (v := nI 2048) dX8_init_5 (by decide) ?_
    refine V_newarray (pc := 8) (t := 0) dX8_init_8 (by decide) acI (by first | decide | omega) (by assumption) (by first | decide | omega) (by first | decide | omega) ?_
    refine V_putR (pc := 10) 8 0 dX8_init_10 flX8_9 (by decide) (by decide) (Or.inr ⟨rfl, rfl, rfl⟩) rfl rfl (by assumption) ?_
    exact s1 _ (hT2.st (k := 0) (t := 0) (n := 2048) ho1 rfl (by decide))
  exact s0 S ⟨rfl, Ext.rf, hB, fun j hj => absurd hj (Nat.not_lt_zero j)⟩
def tb9 : List (Nat × Nat × Nat) := [(1, 0, 48), (2, 0, 6), (3, 0, 6), (4, 0, 6), (5, 0, 6), (6, 0, 3)]
theorem CA.l9 {S1 : ST} {I1 : IT} {L1 : LT} (h : CA E S o tb9 6 S1 I1 L1) (ho : isO E S o 9) : Lay9 E S1 o := ⟨ho.ext h.2.1, (h.2.2.2 0 (by decide)).1, (h.2.2.2 0 (by decide)).2, (h.2.2.2 1 (by decide)).1, (h.2.2.2 1 (by decide)).2, (h.2.2.2 2 (by decide)).1, (h.2.2.2 2 (by decide)).2, (h.2.2.2 3 (by decide)).1, (h.2.2.2 3 (by decide)).2, (h.2.2.2 4 (by decide)).1, (h.2.2.2 4 (by decide)).2, (h.2.2.2 5 (by decide)).1, (h.2.2.2 5 (by decide)).2⟩
abbrev P109 (E : EnT) (S : ST) (I : IT) (L : LT) (o : Nat) (r : Option Value) (S' : ST) (I' : IT) (L' : LT) : Prop := r = none ∧ CA E S o tb9 6 S' I' L' ∧ Lay9 E S' o ∧ I' = (up2 (upr (up2 I o 0 (nI 0)) (o + 4) (fun j => if j < 6 then (-1) else (up2 I o 0 (nI 0)) (o + 4) j)) (o + 6) 1 (nI 2)) ∧ L' = L
theorem c_X9_init (ho : isO E S o 9) (ho1 : o + 1 = eB E + S.1) (hB : BL E S I L) : C E kX9_init 1 6 75 [.ref o] S I L (P109 E S I L o) := by
  refine C_of (by decide) (Nat.le_of_ble_eq_true rfl) ?_
  have s6 : ∀ S1, CA E S o tb9 6 S1 (up2 I o 0 (nI 0)) L → V E kX9_init (rmOf 1 6 75) (QM E (P109 E S I L o) 6 75) 6 75 S1 (up2 I o 0 (nI 0)) L 56 [(0, .ref o)] [] := by
    intro S1 hT
    have hL := hT.l9 ho
    refine V_aload_n (pc := 56) dX9_init_56 rfl ?_
    refine V_getR (pc := 57) 9 4 dX9_init_57 flX9_25 (by decide) hL.o hL.R4 ?_
    refine V_iconst (pc := 60) (v := (-1)) dX9_init_60 (by decide) ?_
    refine V_callSn (pc := 61) (c_J7_fill_53178 (by first | assumption | omega | exact hL.A4) (by first | assumption | omega | exact hL.A4)) dX9_init_61 mlX9_34 mkJ7_fill_53178 rfl rfl ⟨Nat.le_of_ble_eq_true rfl, Nat.le_of_ble_eq_true rfl⟩ (Nat.le_of_ble_eq_true rfl) ⟨Nat.le_of_ble_eq_true rfl, Nat.le_of_ble_eq_true rfl⟩ ?_
    refine V_aload_n (pc := 64) dX9_init_64 rfl ?_
    refine V_getR (pc := 65) 9 6 dX9_init_65 flX9_31 (by decide) hL.o hL.R6 ?_
    refine V_iconst (pc := 68) (v := nI 1) dX9_init_68 (by decide) ?_
    refine V_iconst (pc := 69) (v := nI 2) dX9_init_69 (by decide) ?_
    refine V_iastore (pc := 70) dX9_init_70 hL.A6 (by first | decide | omega) (by omega) ?_
    refine V_vret (pc := 71) dX9_init_71 rfl (by first | decide | omega) (by first | decide | omega) ?_
    exact ⟨rfl, ((hT.ur ho1 (by omega)).u ho1 (by omega)), hL, rfl, rfl⟩
  have s5 : ∀ S1, CA E S o tb9 5 S1 (up2 I o 0 (nI 0)) L → V E kX9_init (rmOf 1 6 75) (QM E (P109 E S I L o) 6 75) 5 72 S1 (up2 I o 0 (nI 0)) L 49 [(0, .ref o)] [] := by
    intro S1 hT
    have hT2 : CA E S o tb9 5 S1 (up2 I o 0 (nI 0)) L := hT
    have hf := hT2.2.2.1.fr
    have hO : isO E S1 o 9 := ho.ext hT.2.1
    have hO2 : isO E (psh E S1 (13 + 0) 3) o 9 := hO.ext (P := fun _ => True) Ext.pu
    refine V_aload_n (pc := 49) dX9_init_49 rfl ?_
    refine V_iconst (pc := 50) (v := nI 3) dX9_init_50 (by decide) ?_
    refine V_newarray (pc := 51) (t := 0) dX9_init_51 (by decide) acI (by first | decide | omega) (by assumption) (by first | decide | omega) (by first | decide | omega) ?_
    refine V_putR (pc := 53) 9 6 dX9_init_53 flX9_31 (by decide) (by decide) (Or.inr ⟨rfl, rfl, rfl⟩) rfl rfl (by assumption) ?_
    exact s6 _ (hT2.st (k := 6) (t := 0) (n := 3) ho1 rfl (by decide))
  have s4 : ∀ S1, CA E S o tb9 4 S1 (up2 I o 0 (nI 0)) L → V E kX9_init (rmOf 1 6 75) (QM E (P109 E S I L o) 6 75) 4 66 S1 (up2 I o 0 (nI 0)) L 41 [(0, .ref o)] [] := by
    intro S1 hT
    have hT2 : CA E S o tb9 4 S1 (up2 I o 0 (nI 0)) L := hT
    have hf := hT2.2.2.1.fr
    have hO : isO E S1 o 9 := ho.ext hT.2.1
    have hO2 : isO E (psh E S1 (13 + 0) 6) o 9 := hO.ext (P := fun _ => True) Ext.pu
    refine V_aload_n (pc := 41) dX9_init_41 rfl ?_
    refine V_bipush (pc := 42) (v := nI 6) dX9_init_42 (by decide) ?_
    refine V_newarray (pc := 44) (t := 0) dX9_init_44 (by decide) acI (by first | decide | omega) (by assumption) (by first | decide | omega) (by first | decide | omega) ?_
    refine V_putR (pc := 46) 9 5 dX9_init_46 flX9_28 (by decide) (by decide) (Or.inr ⟨rfl, rfl, rfl⟩) rfl rfl (by assumption) ?_
    exact s5 _ (hT2.st (k := 5) (t := 0) (n := 6) ho1 rfl (by decide))
  have s3 : ∀ S1, CA E S o tb9 3 S1 (up2 I o 0 (nI 0)) L → V E kX9_init (rmOf 1 6 75) (QM E (P109 E S I L o) 6 75) 3 60 S1 (up2 I o 0 (nI 0)) L 33 [(0, .ref o)] [] := by
    intro S1 hT
    have hT2 : CA E S o tb9 3 S1 (up2 I o 0 (nI 0)) L := hT
    have hf := hT2.2.2.1.fr
    have hO : isO E S1 o 9 := ho.ext hT.2.1
    have hO2 : isO E (psh E S1 (13 + 0) 6) o 9 := hO.ext (P := fun _ => True) Ext.pu
    refine V_aload_n (pc := 33) dX9_init_33 rfl ?_
    refine V_bipush (pc := 34) (v := nI 6) dX9_init_34 (by decide) ?_
    refine V_newarray (pc := 36) (t := 0) dX9_init_36 (by decide) acI (by first | decide | omega) (by assumption) (by first | decide | omega) (by first | decide | omega) ?_
    refine V_putR (pc := 38) 9 4 dX9_init_38 flX9_25 (by decide) (by decide) (Or.inr ⟨rfl, rfl, rfl⟩) rfl rfl (by assumption) ?_
    exact s4 _ (hT2.st (k := 4) (t := 0) (n := 6) ho1 rfl (by decide))
  have s2 : ∀ S1, CA E S o tb9 2 S1 (up2 I o 0 (nI 0)) L → V E kX9_init (rmOf 1 6 75) (QM E (P109 E S I L o) 6 75) 2 54 S1 (up2 I o 0 (nI 0)) L 25 [(0, .ref o)] [] := by
    intro S1 hT
    have hT2 : CA E S o tb9 2 S1 (up2 I o 0 (nI 0)) L := hT
    have hf := hT2.2.2.1.fr
    have hO : isO E S1 o 9 := ho.ext hT.2.1
    have hO2 : isO E (psh E S1 (13 + 0) 6) o 9 := hO.ext (P := fun _ => True) Ext.pu
    refine V_aload_n (pc := 25) dX9_init_25 rfl ?_
    refine V_bipush (pc := 26) (v := nI 6) dX9_init_26 (by decide) ?_
    refine V_newarray (pc := 28) (t := 0) dX9_init_28 (by decide) acI (by first | decide | omega) (by assumption) (by first | decide | omega) (by first | decide | omega) ?_
    refine V_putR (pc := 30) 9 3 dX9_init_30 flX9_22 (by decide) (by decide) (Or.inr ⟨rfl, rfl, rfl⟩) rfl rfl (by assumption) ?_
    exact s3 _ (hT2.st (k := 3) (t := 0) (n := 6) ho1 rfl (by decide))
  have s1 : ∀ S1, CA E S o tb9 1 S1 (up2 I o 0 (nI 0)) L → V E kX9_init (rmOf 1 6 75) (QM E (P109 E S I L o) 6 75) 1 48 S1 (up2 I o 0 (nI 0)) L 17 [(0, .ref o)] [] := by
    intro S1 hT
    have hT2 : CA E S o tb9 1 S1 (up2 I o 0 (nI 0)) L := hT
    have hf := hT2.2.2.1.fr
    have hO : isO E S1 o 9 := ho.ext hT.2.1
    have hO2 : isO E (psh E S1 (13 + 0) 6) o 9 := hO.ext (P := fun _ => True) Ext.pu
    refine V_aload_n (pc := 17) dX9_init_17 rfl ?_
    refine V_bipush (pc := 18) (v := nI 6) dX9_init_18 (by decide) ?_
    refine V_newarray (pc := 20) (t := 0) dX9_init_20 (by decide) acI (by first | decide | omega) (by assumption) (by first | decide | omega) (by first | decide | omega) ?_
    refine V_putR (pc := 22) 9 2 dX9_init_22 flX9_19 (by decide) (by decide) (Or.inr ⟨rfl, rfl, rfl⟩) rfl rfl (by assumption) ?_
    exact s2 _ (hT2.st (k := 2) (t := 0) (n := 6) ho1 rfl (by decide))
  have s0 : ∀ S1, CA E S o tb9 0 S1 I L → V E kX9_init (rmOf 1 6 75) (QM E (P109 E S I L o) 6 75) 0 0 S1 I L 0 [(0, .ref o)] [] := by
    intro S1 hT
    have hT2 : CA E S o tb9 0 S1 (up2 I o 0 (nI 0)) L := (hT.u ho1 (by omega))
    have hf := hT2.2.2.1.fr
    have hO : isO E S1 o 9 := ho.ext hT.2.1
    have hO2 : isO E (psh E S1 (13 + 0) 48) o 9 := hO.ext (P := fun _ => True) Ext.pu
    refine V_aload_n (pc := 0) dX9_init_0 rfl ?_
    refine V_objInit (pc := 1) dX9_init_1 mlX9_3 imO coO (Nat.le_of_ble_eq_true rfl) (Nat.le_of_ble_eq_true rfl) ?_
    refine V_aload_n (pc := 4) dX9_init_4 rfl ?_
    refine V_iconst (pc := 5) (v := nI 0) dX9_init_5 (by decide) ?_
    refine V_putI (pc := 6) 9 0 dX9_init_6 flX9_9 (by decide) (by decide) (Or.inl rfl) rfl rfl (by assumption) ?_
    refine V_aload_n (pc := 9) dX9_init_9 rfl ?_
    refine V_bipush (pc := 10) (v := nI 48) dX9_init_10 (by decide) ?_
    refine V_newarray (pc := 12) (t := 0) dX9_init_12 (by decide) acI (by first | decide | omega) (by assumption) (by first | decide | omega) (by first | decide | omega) ?_
    refine V_putR (pc := 14) 9 1 dX9_init_14 flX9_15 (by decide) (by decide) (Or.inr ⟨rfl, rfl, rfl⟩) rfl rfl (by assumption) ?_
    exact s1 _ (hT2.st (k := 1) (t := 0) (n := 48) ho1 rfl (by decide))
  exact s0 S ⟨rfl, Ext.rf, hB, fun j hj => absurd hj (Nat.not_lt_zero j)⟩
def tb12 : List (Nat × Nat × Nat) := [(2, 0, 7), (3, 0, 5516), (4, 0, 11032), (5, 2, 2), (6, 0, 1350), (7, 0, 16), (9, 0, 1200), (10, 0, 16), (12, 0, 400), (22, 0, 96), (24, 0, 400), (25, 0, 400), (27, 0, 400), (28, 0, 400), (31, 1, 9), (32, 1, 6), (33, 1, 4), (35, 1, 13), (36, 1, 13), (37, 1, 400), (41, 0, 6), (42, 0, 36), (43, 0, 36), (44, 0, 6), (45, 2, 36), (46, 0, 448), (47, 0, 2048), (48, 0, 8), (49, 0, 3), (50, 0, 6), (51, 1, 21), (52, 1, 4), (53, 1, 3), (54, 0, 120), (60, 0, 18)]
theorem CA.l12 {S1 : ST} {I1 : IT} {L1 : LT} (h : CA E S o tb12 35 S1 I1 L1) (ho : isO E S o 12) : Lay12 E S1 o := ⟨ho.ext h.2.1, (h.2.2.2 0 (by decide)).1, (h.2.2.2 0 (by decide)).2, (h.2.2.2 1 (by decide)).1, (h.2.2.2 1 (by decide)).2, (h.2.2.2 2 (by decide)).1, (h.2.2.2 2 (by decide)).2, (h.2.2.2 3 (by decide)).1, (h.2.2.2 3 (by decide)).2, (h.2.2.2 4 (by decide)).1, (h.2.2.2 4 (by decide)).2, (h.2.2.2 5 (by decide)).1, (h.2.2.2 5 (by decide)).2, (h.2.2.2 6 (by decide)).1, (h.2.2.2 6 (by decide)).2, (h.2.2.2 7 (by decide)).1, (h.2.2.2 7 (by decide)).2, (h.2.2.2 8 (by decide)).1, (h.2.2.2 8 (by decide)).2, (h.2.2.2 9 (by decide)).1, (h.2.2.2 9 (by decide)).2, (h.2.2.2 10 (by decide)).1, (h.2.2.2 10 (by decide)).2, (h.2.2.2 11 (by decide)).1, (h.2.2.2 11 (by decide)).2, (h.2.2.2 12 (by decide)).1, (h.2.2.2 12 (by decide)).2, (h.2.2.2 13 (by decide)).1, (h.2.2.2 13 (by decide)).2, (h.2.2.2 14 (by decide)).1, (h.2.2.2 14 (by decide)).2, (h.2.2.2 15 (by decide)).1, (h.2.2.2 15 (by decide)).2, (h.2.2.2 16 (by decide)).1, (h.2.2.2 16 (by decide)).2, (h.2.2.2 17 (by decide)).1, (h.2.2.2 17 (by decide)).2, (h.2.2.2 18 (by decide)).1, (h.2.2.2 18 (by decide)).2, (h.2.2.2 19 (by decide)).1, (h.2.2.2 19 (by decide)).2, (h.2.2.2 20 (by decide)).1, (h.2.2.2 20 (by decide)).2, (h.2.2.2 21 (by decide)).1, (h.2.2.2 21 (by decide)).2, (h.2.2.2 22 (by decide)).1, (h.2.2.2 22 (by decide)).2, (h.2.2.2 23 (by decide)).1, (h.2.2.2 23 (by decide)).2, (h.2.2.2 24 (by decide)).1, (h.2.2.2 24 (by decide)).2, (h.2.2.2 25 (by decide)).1, (h.2.2.2 25 (by decide)).2, (h.2.2.2 26 (by decide)).1, (h.2.2.2 26 (by decide)).2, (h.2.2.2 27 (by decide)).1, (h.2.2.2 27 (by decide)).2, (h.2.2.2 28 (by decide)).1, (h.2.2.2 28 (by decide)).2, (h.2.2.2 29 (by decide)).1, (h.2.2.2 29 (by decide)).2, (h.2.2.2 30 (by decide)).1, (h.2.2.2 30 (by decide)).2, (h.2.2.2 31 (by decide)).1, (h.2.2.2 31 (by decide)).2, (h.2.2.2 32 (by decide)).1, (h.2.2.2 32 (by decide)).2, (h.2.2.2 33 (by decide)).1, (h.2.2.2 33 (by decide)).2, (h.2.2.2 34 (by decide)).1, (h.2.2.2 34 (by decide)).2⟩
abbrev P112 (E : EnT) (S : ST) (I : IT) (L : LT) (o : Nat) (r : Option Value) (S' : ST) (I' : IT) (L' : LT) : Prop := r = none ∧ CA E S o tb12 35 S' I' L' ∧ Lay12 E S' o ∧ I' = (up2 (up2 (up2 (up2 (up2 I o 18 (-1)) o 57 (-1)) o 61 (-1)) (o + 2) 4 (-1)) (o + 2) 6 (nI 2)) ∧ L' = (up2 (up2 (up2 (up2 (up2 (up2 (up2 (up2 (up2 (up2 (up2 (up2 (up2 (up2 (up2 (up2 (up2 (up2 (up2 (up2 (up2 (up2 (up2 (up2 (up2 (up2 L (o + 15) 0 2552) (o + 15) 1 654910919) (o + 15) 2 15192243) (o + 15) 3 86486190) (o + 15) 4 659870194) (o + 15) 5 5170) (o + 15) 6 24165011) (o + 15) 7 824370) (o + 15) 8 441828) (o + 16) 0 824370) (o + 16) 1 146885) (o + 16) 2 404362868) (o + 16) 3 3747098803) (o + 16) 4 398548) (o + 16) 5 15192243) (o + 17) 0 12635795) (o + 17) 1 12889267) (o + 17) 2 13094067) (o + 17) 3 67155) (o + 32) 0 546188) (o + 32) 1 636976) (o + 32) 2 23716) (o + 32) 3 525939) (o + 33) 0 52) (o + 33) 1 486) (o + 33) 2 655)
theorem c_X12_init (ho : isO E S o 12) (ho1 : o + 1 = eB E + S.1) (hB : BL E S I L) : C E kX12_init 1 35 24479 [.ref o] S I L (P112 E S I L o) := by
  refine C_of (by decide) (Nat.le_of_ble_eq_true rfl) ?_
  have s35 : ∀ S1, CA E S o tb12 35 S1 (up2 (up2 I o 18 (-1)) o 57 (-1)) (up2 (up2 (up2 (up2 (up2 (up2 (up2 (up2 (up2 (up2 (up2 (up2 (up2 (up2 (up2 (up2 (up2 (up2 (up2 (up2 (up2 (up2 (up2 (up2 (up2 (up2 L (o + 15) 0 2552) (o + 15) 1 654910919) (o + 15) 2 15192243) (o + 15) 3 86486190) (o + 15) 4 659870194) (o + 15) 5 5170) (o + 15) 6 24165011) (o + 15) 7 824370) (o + 15) 8 441828) (o + 16) 0 824370) (o + 16) 1 146885) (o + 16) 2 404362868) (o + 16) 3 3747098803) (o + 16) 4 398548) (o + 16) 5 15192243) (o + 17) 0 12635795) (o + 17) 1 12889267) (o + 17) 2 13094067) (o + 17) 3 67155) (o + 32) 0 546188) (o + 32) 1 636976) (o + 32) 2 23716) (o + 32) 3 525939) (o + 33) 0 52) (o + 33) 1 486) (o + 33) 2 655) → V E kX12_init (rmOf 1 35 24479) (QM E (P112 E S I L o) 35 24479) 35 24479 S1 (up2 (up2 I o 18 (-1)) o 57 (-1)) (up2 (up2 (up2 (up2 (up2 (up2 (up2 (up2 (up2 (up2 (up2 (up2 (up2 (up2 (up2 (up2 (up2 (up2 (up2 (up2 (up2 (up2 (up2 (up2 (up2 (up2 L (o + 15) 0 2552) (o + 15) 1 654910919) (o + 15) 2 15192243) (o + 15) 3 86486190) (o + 15) 4 659870194) (o + 15) 5 5170) (o + 15) 6 24165011) (o + 15) 7 824370) (o + 15) 8 441828) (o + 16) 0 824370) (o + 16) 1 146885) (o + 16) 2 404362868) (o + 16) 3 3747098803) (o + 16) 4 398548) (o + 16) 5 15192243) (o + 17) 0 12635795) (o + 17) 1 12889267) (o + 17) 2 13094067) (o + 17) 3 67155) (o + 32) 0 546188) (o + 32) 1 636976) (o + 32) 2 23716) (o + 32) 3 525939) (o + 33) 0 52) (o + 33) 1 486) (o + 33) 2 655) 460 [(0, .ref o)] [] := by
    intro S1 hT
    have hL := hT.l12 ho
    refine V_aload_n (pc := 460) dX12_init_460 rfl ?_
    refine V_iconst (pc := 461) (v := (-1)) dX12_init_461 (by decide) ?_
    refine V_putI (pc := 462) 12 61 dX12_init_462 flX12_172 (by decide) (by decide) (Or.inl rfl) rfl rfl hL.o ?_
    refine V_aload_n (pc := 465) dX12_init_465 rfl ?_
    refine V_getR (pc := 466) 12 3 dX12_init_466 flX12_13 (by decide) hL.o hL.R3 ?_
    refine V_iconst (pc := 469) (v := nI 4) dX12_init_469 (by decide) ?_
    refine V_iconst (pc := 470) (v := (-1)) dX12_init_470 (by decide) ?_
    refine V_iastore (pc := 471) dX12_init_471 hL.A3 (by first | decide | omega) (by omega) ?_
    refine V_aload_n (pc := 472) dX12_init_472 rfl ?_
    refine V_getR (pc := 473) 12 3 dX12_init_473 flX12_13 (by decide) hL.o hL.R3 ?_
    refine V_bipush (pc := 476) (v := nI 6) dX12_init_476 (by decide) ?_
    refine V_iconst (pc := 478) (v := nI 2) dX12_init_478 (by decide) ?_
    refine V_iastore (pc := 479) dX12_init_479 hL.A3 (by first | decide | omega) (by omega) ?_
    refine V_vret (pc := 480) dX12_init_480 rfl (by first | decide | omega) (by first | decide | omega) ?_
    exact ⟨rfl, (((hT.u ho1 (by omega)).u ho1 (by omega)).u ho1 (by omega)), hL, rfl, rfl⟩
  have s34 : ∀ S1, CA E S o tb12 34 S1 (up2 I o 18 (-1)) (up2 (up2 (up2 (up2 (up2 (up2 (up2 (up2 (up2 (up2 (up2 (up2 (up2 (up2 (up2 (up2 (up2 (up2 (up2 (up2 (up2 (up2 (up2 (up2 (up2 (up2 L (o + 15) 0 2552) (o + 15) 1 654910919) (o + 15) 2 15192243) (o + 15) 3 86486190) (o + 15) 4 659870194) (o + 15) 5 5170) (o + 15) 6 24165011) (o + 15) 7 824370) (o + 15) 8 441828) (o + 16) 0 824370) (o + 16) 1 146885) (o + 16) 2 404362868) (o + 16) 3 3747098803) (o + 16) 4 398548) (o + 16) 5 15192243) (o + 17) 0 12635795) (o + 17) 1 12889267) (o + 17) 2 13094067) (o + 17) 3 67155) (o + 32) 0 546188) (o + 32) 1 636976) (o + 32) 2 23716) (o + 32) 3 525939) (o + 33) 0 52) (o + 33) 1 486) (o + 33) 2 655) → V E kX12_init (rmOf 1 35 24479) (QM E (P112 E S I L o) 35 24479) 34 24461 S1 (up2 I o 18 (-1)) (up2 (up2 (up2 (up2 (up2 (up2 (up2 (up2 (up2 (up2 (up2 (up2 (up2 (up2 (up2 (up2 (up2 (up2 (up2 (up2 (up2 (up2 (up2 (up2 (up2 (up2 L (o + 15) 0 2552) (o + 15) 1 654910919) (o + 15) 2 15192243) (o + 15) 3 86486190) (o + 15) 4 659870194) (o + 15) 5 5170) (o + 15) 6 24165011) (o + 15) 7 824370) (o + 15) 8 441828) (o + 16) 0 824370) (o + 16) 1 146885) (o + 16) 2 404362868) (o + 16) 3 3747098803) (o + 16) 4 398548) (o + 16) 5 15192243) (o + 17) 0 12635795) (o + 17) 1 12889267) (o + 17) 2 13094067) (o + 17) 3 67155) (o + 32) 0 546188) (o + 32) 1 636976) (o + 32) 2 23716) (o + 32) 3 525939) (o + 33) 0 52) (o + 33) 1 486) (o + 33) 2 655) 447 [(0, .ref o)] [] := by
    intro S1 hT
    have hT2 : CA E S o tb12 34 S1 (up2 (up2 I o 18 (-1)) o 57 (-1)) (up2 (up2 (up2 (up2 (up2 (up2 (up2 (up2 (up2 (up2 (up2 (up2 (up2 (up2 (up2 (up2 (up2 (up2 (up2 (up2 (up2 (up2 (up2 (up2 (up2 (up2 L (o + 15) 0 2552) (o + 15) 1 654910919) (o + 15) 2 15192243) (o + 15) 3 86486190) (o + 15) 4 659870194) (o + 15) 5 5170) (o + 15) 6 24165011) (o + 15) 7 824370) (o + 15) 8 441828) (o + 16) 0 824370) (o + 16) 1 146885) (o + 16) 2 404362868) (o + 16) 3 3747098803) (o + 16) 4 398548) (o + 16) 5 15192243) (o + 17) 0 12635795) (o + 17) 1 12889267) (o + 17) 2 13094067) (o + 17) 3 67155) (o + 32) 0 546188) (o + 32) 1 636976) (o + 32) 2 23716) (o + 32) 3 525939) (o + 33) 0 52) (o + 33) 1 486) (o + 33) 2 655) := (hT.u ho1 (by omega))
    have hf := hT2.2.2.1.fr
    have hO : isO E S1 o 12 := ho.ext hT.2.1
    have hO2 : isO E (psh E S1 (13 + 0) 18) o 12 := hO.ext (P := fun _ => True) Ext.pu
    refine V_aload_n (pc := 447) dX12_init_447 rfl ?_
    refine V_iconst (pc := 448) (v := (-1)) dX12_init_448 (by decide) ?_
    refine V_putI (pc := 449) 12 57 dX12_init_449 flX12_166 (by decide) (by decide) (Or.inl rfl) rfl rfl (by assumption) ?_
    refine V_aload_n (pc := 452) dX12_init_452 rfl ?_
    refine V_bipush (pc := 453) (v := nI 18) dX12_init_453 (by decide) ?_
    refine V_newarray (pc := 455) (t := 0) dX12_init_455 (by decide) acI (by first | decide | omega) (by assumption) (by first | decide | omega) (by first | decide | omega) ?_
    refine V_putR (pc := 457) 12 60 dX12_init_457 flX12_169 (by decide) (by decide) (Or.inr ⟨rfl, rfl, rfl⟩) rfl rfl (by assumption) ?_
    exact s35 _ (hT2.st (k := 60) (t := 0) (n := 18) ho1 rfl (by decide))
  have s33 : ∀ S1, CA E S o tb12 33 S1 (up2 I o 18 (-1)) (up2 (up2 (up2 (up2 (up2 (up2 (up2 (up2 (up2 (up2 (up2 (up2 (up2 (up2 (up2 (up2 (up2 (up2 (up2 (up2 (up2 (up2 (up2 (up2 (up2 (up2 L (o + 15) 0 2552) (o + 15) 1 654910919) (o + 15) 2 15192243) (o + 15) 3 86486190) (o + 15) 4 659870194) (o + 15) 5 5170) (o + 15) 6 24165011) (o + 15) 7 824370) (o + 15) 8 441828) (o + 16) 0 824370) (o + 16) 1 146885) (o + 16) 2 404362868) (o + 16) 3 3747098803) (o + 16) 4 398548) (o + 16) 5 15192243) (o + 17) 0 12635795) (o + 17) 1 12889267) (o + 17) 2 13094067) (o + 17) 3 67155) (o + 32) 0 546188) (o + 32) 1 636976) (o + 32) 2 23716) (o + 32) 3 525939) (o + 33) 0 52) (o + 33) 1 486) (o + 33) 2 655) → V E kX12_init (rmOf 1 35 24479) (QM E (P112 E S I L o) 35 24479) 33 24341 S1 (up2 I o 18 (-1)) (up2 (up2 (up2 (up2 (up2 (up2 (up2 (up2 (up2 (up2 (up2 (up2 (up2 (up2 (up2 (up2 (up2 (up2 (up2 (up2 (up2 (up2 (up2 (up2 (up2 (up2 L (o + 15) 0 2552) (o + 15) 1 654910919) (o + 15) 2 15192243) (o + 15) 3 86486190) (o + 15) 4 659870194) (o + 15) 5 5170) (o + 15) 6 24165011) (o + 15) 7 824370) (o + 15) 8 441828) (o + 16) 0 824370) (o + 16) 1 146885) (o + 16) 2 404362868) (o + 16) 3 3747098803) (o + 16) 4 398548) (o + 16) 5 15192243) (o + 17) 0 12635795) (o + 17) 1 12889267) (o + 17) 2 13094067) (o + 17) 3 67155) (o + 32) 0 546188) (o + 32) 1 636976) (o + 32) 2 23716) (o + 32) 3 525939) (o + 33) 0 52) (o + 33) 1 486) (o + 33) 2 655) 439 [(0, .ref o)] [] := by
    intro S1 hT
    have hT2 : CA E S o tb12 33 S1 (up2 I o 18 (-1)) (up2 (up2 (up2 (up2 (up2 (up2 (up2 (up2 (up2 (up2 (up2 (up2 (up2 (up2 (up2 (up2 (up2 (up2 (up2 (up2 (up2 (up2 (up2 (up2 (up2 (up2 L (o + 15) 0 2552) (o + 15) 1 654910919) (o + 15) 2 15192243) (o + 15) 3 86486190) (o + 15) 4 659870194) (o + 15) 5 5170) (o + 15) 6 24165011) (o + 15) 7 824370) (o + 15) 8 441828) (o + 16) 0 824370) (o + 16) 1 146885) (o + 16) 2 404362868) (o + 16) 3 3747098803) (o + 16) 4 398548) (o + 16) 5 15192243) (o + 17) 0 12635795) (o + 17) 1 12889267) (o + 17) 2 13094067) (o + 17) 3 67155) (o + 32) 0 546188) (o + 32) 1 636976) (o + 32) 2 23716) (o + 32) 3 525939) (o + 33) 0 52) (o + 33) 1 486) (o + 33) 2 655) := hT
    have hf := hT2.2.2.1.fr
    have hO : isO E S1 o 12 := ho.ext hT.2.1
    have hO2 : isO E (psh E S1 (13 + 0) 120) o 12 := hO.ext (P := fun _ => True) Ext.pu
    refine V_aload_n (pc := 439) dX12_init_439 rfl ?_
    refine V_bipush (pc := 440) (v := nI 120) dX12_init_440 (by decide) ?_
    refine V_newarray (pc := 442) (t := 0) dX12_init_442 (by decide) acI (by first | decide | omega) (by assumption) (by first | decide | omega) (by first | decide | omega) ?_
    refine V_putR (pc := 444) 12 54 dX12_init_444 flX12_163 (by decide) (by decide) (Or.inr ⟨rfl, rfl, rfl⟩) rfl rfl (by assumption) ?_
    exact s34 _ (hT2.st (k := 54) (t := 0) (n := 120) ho1 rfl (by decide))
  have s32 : ∀ S1, CA E S o tb12 32 S1 (up2 I o 18 (-1)) (up2 (up2 (up2 (up2 (up2 (up2 (up2 (up2 (up2 (up2 (up2 (up2 (up2 (up2 (up2 (up2 (up2 (up2 (up2 (up2 (up2 (up2 (up2 L (o + 15) 0 2552) (o + 15) 1 654910919) (o + 15) 2 15192243) (o + 15) 3 86486190) (o + 15) 4 659870194) (o + 15) 5 5170) (o + 15) 6 24165011) (o + 15) 7 824370) (o + 15) 8 441828) (o + 16) 0 824370) (o + 16) 1 146885) (o + 16) 2 404362868) (o + 16) 3 3747098803) (o + 16) 4 398548) (o + 16) 5 15192243) (o + 17) 0 12635795) (o + 17) 1 12889267) (o + 17) 2 13094067) (o + 17) 3 67155) (o + 32) 0 546188) (o + 32) 1 636976) (o + 32) 2 23716) (o + 32) 3 525939) → V E kX12_init (rmOf 1 35 24479) (QM E (P112 E S I L o) 35 24479) 32 24338 S1 (up2 I o 18 (-1)) (up2 (up2 (up2 (up2 (up2 (up2 (up2 (up2 (up2 (up2 (up2 (up2 (up2 (up2 (up2 (up2 (up2 (up2 (up2 (up2 (up2 (up2 (up2 L (o + 15) 0 2552) (o + 15) 1 654910919) (o + 15) 2 15192243) (o + 15) 3 86486190) (o + 15) 4 659870194) (o + 15) 5 5170) (o + 15) 6 24165011) (o + 15) 7 824370) (o + 15) 8 441828) (o + 16) 0 824370) (o + 16) 1 146885) (o + 16) 2 404362868) (o + 16) 3 3747098803) (o + 16) 4 398548) (o + 16) 5 15192243) (o + 17) 0 12635795) (o + 17) 1 12889267) (o + 17) 2 13094067) (o + 17) 3 67155) (o + 32) 0 546188) (o + 32) 1 636976) (o + 32) 2 23716) (o + 32) 3 525939) 414 [(0, .ref o)] [] := by
    intro S1 hT
    have hT2 : CA E S o tb12 32 S1 (up2 I o 18 (-1)) (up2 (up2 (up2 (up2 (up2 (up2 (up2 (up2 (up2 (up2 (up2 (up2 (up2 (up2 (up2 (up2 (up2 (up2 (up2 (up2 (up2 (up2 (up2 L (o + 15) 0 2552) (o + 15) 1 654910919) (o + 15) 2 15192243) (o + 15) 3 86486190) (o + 15) 4 659870194) (o + 15) 5 5170) (o + 15) 6 24165011) (o + 15) 7 824370) (o + 15) 8 441828) (o + 16) 0 824370) (o + 16) 1 146885) (o + 16) 2 404362868) (o + 16) 3 3747098803) (o + 16) 4 398548) (o + 16) 5 15192243) (o + 17) 0 12635795) (o + 17) 1 12889267) (o + 17) 2 13094067) (o + 17) 3 67155) (o + 32) 0 546188) (o + 32) 1 636976) (o + 32) 2 23716) (o + 32) 3 525939) := hT
    have hf := hT2.2.2.1.fr
    have hO : isO E S1 o 12 := ho.ext hT.2.1
    have hO2 : isO E (psh E S1 (13 + 1) 3) o 12 := hO.ext (P := fun _ => True) Ext.pu
    have e : eB E + S1.1 = o + 33 := by have := hT.1; omega
    have hA1 : isA E (psh E S1 (13 + 1) 3) (eB E + S1.1) 1 3 := isA_psh
    refine V_aload_n (pc := 414) dX12_init_414 rfl ?_
    refine V_iconst (pc := 415) (v := nI 3) dX12_init_415 (by decide) ?_
    refine V_newarray (pc := 416) (t := 1) dX12_init_416 (by decide) acJ (by first | decide | omega) (by assumption) (by first | decide | omega) (by first | decide | omega) ?_
    refine V_dup (pc := 418) dX12_init_418 rfl ?_
    refine V_iconst (pc := 419) (v := nI 0) dX12_init_419 (by decide) ?_
    refine V_ldc2 (pc := 420) dX12_init_420 coX12_154 ?_
    refine V_lastore (pc := 423) dX12_init_423 (by assumption) (by first | decide | omega) (by omega) ?_
    refine V_dup (pc := 424) dX12_init_424 rfl ?_
    refine V_iconst (pc := 425) (v := nI 1) dX12_init_425 (by decide) ?_
    refine V_ldc2 (pc := 426) dX12_init_426 coX12_156 ?_
    refine V_lastore (pc := 429) dX12_init_429 (by assumption) (by first | decide | omega) (by omega) ?_
    refine V_dup (pc := 430) dX12_init_430 rfl ?_
    refine V_iconst (pc := 431) (v := nI 2) dX12_init_431 (by decide) ?_
    refine V_ldc2 (pc := 432) dX12_init_432 coX12_158 ?_
    refine V_lastore (pc := 435) dX12_init_435 (by assumption) (by first | decide | omega) (by omega) ?_
    refine V_putR (pc := 436) 12 53 dX12_init_436 flX12_160 (by decide) (by decide) (Or.inr ⟨rfl, rfl, rfl⟩) rfl rfl (by assumption) ?_
    rw [e]
    have hN := hT2.st (k := 53) (t := 1) (n := 3) ho1 rfl (by decide)
    rw [e] at hN
    exact s33 _ (((hN.uL ho1 (by omega)).uL ho1 (by omega)).uL ho1 (by omega))
  have s31 : ∀ S1, CA E S o tb12 31 S1 (up2 I o 18 (-1)) (up2 (up2 (up2 (up2 (up2 (up2 (up2 (up2 (up2 (up2 (up2 (up2 (up2 (up2 (up2 (up2 (up2 (up2 (up2 L (o + 15) 0 2552) (o + 15) 1 654910919) (o + 15) 2 15192243) (o + 15) 3 86486190) (o + 15) 4 659870194) (o + 15) 5 5170) (o + 15) 6 24165011) (o + 15) 7 824370) (o + 15) 8 441828) (o + 16) 0 824370) (o + 16) 1 146885) (o + 16) 2 404362868) (o + 16) 3 3747098803) (o + 16) 4 398548) (o + 16) 5 15192243) (o + 17) 0 12635795) (o + 17) 1 12889267) (o + 17) 2 13094067) (o + 17) 3 67155) → V E kX12_init (rmOf 1 35 24479) (QM E (P112 E S I L o) 35 24479) 31 24334 S1 (up2 I o 18 (-1)) (up2 (up2 (up2 (up2 (up2 (up2 (up2 (up2 (up2 (up2 (up2 (up2 (up2 (up2 (up2 (up2 (up2 (up2 (up2 L (o + 15) 0 2552) (o + 15) 1 654910919) (o + 15) 2 15192243) (o + 15) 3 86486190) (o + 15) 4 659870194) (o + 15) 5 5170) (o + 15) 6 24165011) (o + 15) 7 824370) (o + 15) 8 441828) (o + 16) 0 824370) (o + 16) 1 146885) (o + 16) 2 404362868) (o + 16) 3 3747098803) (o + 16) 4 398548) (o + 16) 5 15192243) (o + 17) 0 12635795) (o + 17) 1 12889267) (o + 17) 2 13094067) (o + 17) 3 67155) 383 [(0, .ref o)] [] := by
    intro S1 hT
    have hT2 : CA E S o tb12 31 S1 (up2 I o 18 (-1)) (up2 (up2 (up2 (up2 (up2 (up2 (up2 (up2 (up2 (up2 (up2 (up2 (up2 (up2 (up2 (up2 (up2 (up2 (up2 L (o + 15) 0 2552) (o + 15) 1 654910919) (o + 15) 2 15192243) (o + 15) 3 86486190) (o + 15) 4 659870194) (o + 15) 5 5170) (o + 15) 6 24165011) (o + 15) 7 824370) (o + 15) 8 441828) (o + 16) 0 824370) (o + 16) 1 146885) (o + 16) 2 404362868) (o + 16) 3 3747098803) (o + 16) 4 398548) (o + 16) 5 15192243) (o + 17) 0 12635795) (o + 17) 1 12889267) (o + 17) 2 13094067) (o + 17) 3 67155) := hT
    have hf := hT2.2.2.1.fr
    have hO : isO E S1 o 12 := ho.ext hT.2.1
    have hO2 : isO E (psh E S1 (13 + 1) 4) o 12 := hO.ext (P := fun _ => True) Ext.pu
    have e : eB E + S1.1 = o + 32 := by have := hT.1; omega
    have hA1 : isA E (psh E S1 (13 + 1) 4) (eB E + S1.1) 1 4 := isA_psh
    refine V_aload_n (pc := 383) dX12_init_383 rfl ?_
    refine V_iconst (pc := 384) (v := nI 4) dX12_init_384 (by decide) ?_
    refine V_newarray (pc := 385) (t := 1) dX12_init_385 (by decide) acJ (by first | decide | omega) (by assumption) (by first | decide | omega) (by first | decide | omega) ?_
    refine V_dup (pc := 387) dX12_init_387 rfl ?_
    refine V_iconst (pc := 388) (v := nI 0) dX12_init_388 (by decide) ?_
    refine V_ldc2 (pc := 389) dX12_init_389 coX12_143 ?_
    refine V_lastore (pc := 392) dX12_init_392 (by assumption) (by first | decide | omega) (by omega) ?_
    refine V_dup (pc := 393) dX12_init_393 rfl ?_
    refine V_iconst (pc := 394) (v := nI 1) dX12_init_394 (by decide) ?_
    refine V_ldc2 (pc := 395) dX12_init_395 coX12_145 ?_
    refine V_lastore (pc := 398) dX12_init_398 (by assumption) (by first | decide | omega) (by omega) ?_
    refine V_dup (pc := 399) dX12_init_399 rfl ?_
    refine V_iconst (pc := 400) (v := nI 2) dX12_init_400 (by decide) ?_
    refine V_ldc2 (pc := 401) dX12_init_401 coX12_147 ?_
    refine V_lastore (pc := 404) dX12_init_404 (by assumption) (by first | decide | omega) (by omega) ?_
    refine V_dup (pc := 405) dX12_init_405 rfl ?_
    refine V_iconst (pc := 406) (v := nI 3) dX12_init_406 (by decide) ?_
    refine V_ldc2 (pc := 407) dX12_init_407 coX12_149 ?_
    refine V_lastore (pc := 410) dX12_init_410 (by assumption) (by first | decide | omega) (by omega) ?_
    refine V_putR (pc := 411) 12 52 dX12_init_411 flX12_151 (by decide) (by decide) (Or.inr ⟨rfl, rfl, rfl⟩) rfl rfl (by assumption) ?_
    rw [e]
    have hN := hT2.st (k := 52) (t := 1) (n := 4) ho1 rfl (by decide)
    rw [e] at hN
    exact s32 _ ((((hN.uL ho1 (by omega)).uL ho1 (by omega)).uL ho1 (by omega)).uL ho1 (by omega))
  have s30 : ∀ S1, CA E S o tb12 30 S1 (up2 I o 18 (-1)) (up2 (up2 (up2 (up2 (up2 (up2 (up2 (up2 (up2 (up2 (up2 (up2 (up2 (up2 (up2 (up2 (up2 (up2 (up2 L (o + 15) 0 2552) (o + 15) 1 654910919) (o + 15) 2 15192243) (o + 15) 3 86486190) (o + 15) 4 659870194) (o + 15) 5 5170) (o + 15) 6 24165011) (o + 15) 7 824370) (o + 15) 8 441828) (o + 16) 0 824370) (o + 16) 1 146885) (o + 16) 2 404362868) (o + 16) 3 3747098803) (o + 16) 4 398548) (o + 16) 5 15192243) (o + 17) 0 12635795) (o + 17) 1 12889267) (o + 17) 2 13094067) (o + 17) 3 67155) → V E kX12_init (rmOf 1 35 24479) (QM E (P112 E S I L o) 35 24479) 30 24313 S1 (up2 I o 18 (-1)) (up2 (up2 (up2 (up2 (up2 (up2 (up2 (up2 (up2 (up2 (up2 (up2 (up2 (up2 (up2 (up2 (up2 (up2 (up2 L (o + 15) 0 2552) (o + 15) 1 654910919) (o + 15) 2 15192243) (o + 15) 3 86486190) (o + 15) 4 659870194) (o + 15) 5 5170) (o + 15) 6 24165011) (o + 15) 7 824370) (o + 15) 8 441828) (o + 16) 0 824370) (o + 16) 1 146885) (o + 16) 2 404362868) (o + 16) 3 3747098803) (o + 16) 4 398548) (o + 16) 5 15192243) (o + 17) 0 12635795) (o + 17) 1 12889267) (o + 17) 2 13094067) (o + 17) 3 67155) 375 [(0, .ref o)] [] := by
    intro S1 hT
    have hT2 : CA E S o tb12 30 S1 (up2 I o 18 (-1)) (up2 (up2 (up2 (up2 (up2 (up2 (up2 (up2 (up2 (up2 (up2 (up2 (up2 (up2 (up2 (up2 (up2 (up2 (up2 L (o + 15) 0 2552) (o + 15) 1 654910919) (o + 15) 2 15192243) (o + 15) 3 86486190) (o + 15) 4 659870194) (o + 15) 5 5170) (o + 15) 6 24165011) (o + 15) 7 824370) (o + 15) 8 441828) (o + 16) 0 824370) (o + 16) 1 146885) (o + 16) 2 404362868) (o + 16) 3 3747098803) (o + 16) 4 398548) (o + 16) 5 15192243) (o + 17) 0 12635795) (o + 17) 1 12889267) (o + 17) 2 13094067) (o + 17) 3 67155) := hT
    have hf := hT2.2.2.1.fr
    have hO : isO E S1 o 12 := ho.ext hT.2.1
    have hO2 : isO E (psh E S1 (13 + 1) 21) o 12 := hO.ext (P := fun _ => True) Ext.pu
    refine V_aload_n (pc := 375) dX12_init_375 rfl ?_
    refine V_bipush (pc := 376) (v := nI 21) dX12_init_376 (by decide) ?_
    refine V_newarray (pc := 378) (t := 1) dX12_init_378 (by decide) acJ (by first | decide | omega) (by assumption) (by first | decide | omega) (by first | decide | omega) ?_
    refine V_putR (pc := 380) 12 51 dX12_init_380 flX12_140 (by decide) (by decide) (Or.inr ⟨rfl, rfl, rfl⟩) rfl rfl (by assumption) ?_
    exact s31 _ (hT2.st (k := 51) (t := 1) (n := 21) ho1 rfl (by decide))
  have s29 : ∀ S1, CA E S o tb12 29 S1 (up2 I o 18 (-1)) (up2 (up2 (up2 (up2 (up2 (up2 (up2 (up2 (up2 (up2 (up2 (up2 (up2 (up2 (up2 (up2 (up2 (up2 (up2 L (o + 15) 0 2552) (o + 15) 1 654910919) (o + 15) 2 15192243) (o + 15) 3 86486190) (o + 15) 4 659870194) (o + 15) 5 5170) (o + 15) 6 24165011) (o + 15) 7 824370) (o + 15) 8 441828) (o + 16) 0 824370) (o + 16) 1 146885) (o + 16) 2 404362868) (o + 16) 3 3747098803) (o + 16) 4 398548) (o + 16) 5 15192243) (o + 17) 0 12635795) (o + 17) 1 12889267) (o + 17) 2 13094067) (o + 17) 3 67155) → V E kX12_init (rmOf 1 35 24479) (QM E (P112 E S I L o) 35 24479) 29 24307 S1 (up2 I o 18 (-1)) (up2 (up2 (up2 (up2 (up2 (up2 (up2 (up2 (up2 (up2 (up2 (up2 (up2 (up2 (up2 (up2 (up2 (up2 (up2 L (o + 15) 0 2552) (o + 15) 1 654910919) (o + 15) 2 15192243) (o + 15) 3 86486190) (o + 15) 4 659870194) (o + 15) 5 5170) (o + 15) 6 24165011) (o + 15) 7 824370) (o + 15) 8 441828) (o + 16) 0 824370) (o + 16) 1 146885) (o + 16) 2 404362868) (o + 16) 3 3747098803) (o + 16) 4 398548) (o + 16) 5 15192243) (o + 17) 0 12635795) (o + 17) 1 12889267) (o + 17) 2 13094067) (o + 17) 3 67155) 367 [(0, .ref o)] [] := by
    intro S1 hT
    have hT2 : CA E S o tb12 29 S1 (up2 I o 18 (-1)) (up2 (up2 (up2 (up2 (up2 (up2 (up2 (up2 (up2 (up2 (up2 (up2 (up2 (up2 (up2 (up2 (up2 (up2 (up2 L (o + 15) 0 2552) (o + 15) 1 654910919) (o + 15) 2 15192243) (o + 15) 3 86486190) (o + 15) 4 659870194) (o + 15) 5 5170) (o + 15) 6 24165011) (o + 15) 7 824370) (o + 15) 8 441828) (o + 16) 0 824370) (o + 16) 1 146885) (o + 16) 2 404362868) (o + 16) 3 3747098803) (o + 16) 4 398548) (o + 16) 5 15192243) (o + 17) 0 12635795) (o + 17) 1 12889267) (o + 17) 2 13094067) (o + 17) 3 67155) := hT
    have hf := hT2.2.2.1.fr
    have hO : isO E S1 o 12 := ho.ext hT.2.1
    have hO2 : isO E (psh E S1 (13 + 0) 6) o 12 := hO.ext (P := fun _ => True) Ext.pu
    refine V_aload_n (pc := 367) dX12_init_367 rfl ?_
    refine V_bipush (pc := 368) (v := nI 6) dX12_init_368 (by decide) ?_
    refine V_newarray (pc := 370) (t := 0) dX12_init_370 (by decide) acI (by first | decide | omega) (by assumption) (by first | decide | omega) (by first | decide | omega) ?_
    refine V_putR (pc := 372) 12 50 dX12_init_372 flX12_137 (by decide) (by decide) (Or.inr ⟨rfl, rfl, rfl⟩) rfl rfl (by assumption) ?_
    exact s30 _ (hT2.st (k := 50) (t := 0) (n := 6) ho1 rfl (by decide))
  have s28 : ∀ S1, CA E S o tb12 28 S1 (up2 I o 18 (-1)) (up2 (up2 (up2 (up2 (up2 (up2 (up2 (up2 (up2 (up2 (up2 (up2 (up2 (up2 (up2 (up2 (up2 (up2 (up2 L (o + 15) 0 2552) (o + 15) 1 654910919) (o + 15) 2 15192243) (o + 15) 3 86486190) (o + 15) 4 659870194) (o + 15) 5 5170) (o + 15) 6 24165011) (o + 15) 7 824370) (o + 15) 8 441828) (o + 16) 0 824370) (o + 16) 1 146885) (o + 16) 2 404362868) (o + 16) 3 3747098803) (o + 16) 4 398548) (o + 16) 5 15192243) (o + 17) 0 12635795) (o + 17) 1 12889267) (o + 17) 2 13094067) (o + 17) 3 67155) → V E kX12_init (rmOf 1 35 24479) (QM E (P112 E S I L o) 35 24479) 28 24304 S1 (up2 I o 18 (-1)) (up2 (up2 (up2 (up2 (up2 (up2 (up2 (up2 (up2 (up2 (up2 (up2 (up2 (up2 (up2 (up2 (up2 (up2 (up2 L (o + 15) 0 2552) (o + 15) 1 654910919) (o + 15) 2 15192243) (o + 15) 3 86486190) (o + 15) 4 659870194) (o + 15) 5 5170) (o + 15) 6 24165011) (o + 15) 7 824370) (o + 15) 8 441828) (o + 16) 0 824370) (o + 16) 1 146885) (o + 16) 2 404362868) (o + 16) 3 3747098803) (o + 16) 4 398548) (o + 16) 5 15192243) (o + 17) 0 12635795) (o + 17) 1 12889267) (o + 17) 2 13094067) (o + 17) 3 67155) 360 [(0, .ref o)] [] := by
    intro S1 hT
    have hT2 : CA E S o tb12 28 S1 (up2 I o 18 (-1)) (up2 (up2 (up2 (up2 (up2 (up2 (up2 (up2 (up2 (up2 (up2 (up2 (up2 (up2 (up2 (up2 (up2 (up2 (up2 L (o + 15) 0 2552) (o + 15) 1 654910919) (o + 15) 2 15192243) (o + 15) 3 86486190) (o + 15) 4 659870194) (o + 15) 5 5170) (o + 15) 6 24165011) (o + 15) 7 824370) (o + 15) 8 441828) (o + 16) 0 824370) (o + 16) 1 146885) (o + 16) 2 404362868) (o + 16) 3 3747098803) (o + 16) 4 398548) (o + 16) 5 15192243) (o + 17) 0 12635795) (o + 17) 1 12889267) (o + 17) 2 13094067) (o + 17) 3 67155) := hT
    have hf := hT2.2.2.1.fr
    have hO : isO E S1 o 12 := ho.ext hT.2.1
    have hO2 : isO E (psh E S1 (13 + 0) 3) o 12 := hO.ext (P := fun _ => True) Ext.pu
    refine V_aload_n (pc := 360) dX12_init_360 rfl ?_
    refine V_iconst (pc := 361) (v := nI 3) dX12_init_361 (by decide) ?_
    refine V_newarray (pc := 362) (t := 0) dX12_init_362 (by decide) acI (by first | decide | omega) (by assumption) (by first | decide | omega) (by first | decide | omega) ?_
    refine V_putR (pc := 364) 12 49 dX12_init_364 flX12_134 (by decide) (by decide) (Or.inr ⟨rfl, rfl, rfl⟩) rfl rfl (by assumption) ?_
    exact s29 _ (hT2.st (k := 49) (t := 0) (n := 3) ho1 rfl (by decide))
  have s27 : ∀ S1, CA E S o tb12 27 S1 (up2 I o 18 (-1)) (up2 (up2 (up2 (up2 (up2 (up2 (up2 (up2 (up2 (up2 (up2 (up2 (up2 (up2 (up2 (up2 (up2 (up2 (up2 L (o + 15) 0 2552) (o + 15) 1 654910919) (o + 15) 2 15192243) (o + 15) 3 86486190) (o + 15) 4 659870194) (o + 15) 5 5170) (o + 15) 6 24165011) (o + 15) 7 824370) (o + 15) 8 441828) (o + 16) 0 824370) (o + 16) 1 146885) (o + 16) 2 404362868) (o + 16) 3 3747098803) (o + 16) 4 398548) (o + 16) 5 15192243) (o + 17) 0 12635795) (o + 17) 1 12889267) (o + 17) 2 13094067) (o + 17) 3 67155) → V E kX12_init (rmOf 1 35 24479) (QM E (P112 E S I L o) 35 24479) 27 24296 S1 (up2 I o 18 (-1)) (up2 (up2 (up2 (up2 (up2 (up2 (up2 (up2 (up2 (up2 (up2 (up2 (up2 (up2 (up2 (up2 (up2 (up2 (up2 L (o + 15) 0 2552) (o + 15) 1 654910919) (o + 15) 2 15192243) (o + 15) 3 86486190) (o + 15) 4 659870194) (o + 15) 5 5170) (o + 15) 6 24165011) (o + 15) 7 824370) (o + 15) 8 441828) (o + 16) 0 824370) (o + 16) 1 146885) (o + 16) 2 404362868) (o + 16) 3 3747098803) (o + 16) 4 398548) (o + 16) 5 15192243) (o + 17) 0 12635795) (o + 17) 1 12889267) (o + 17) 2 13094067) (o + 17) 3 67155) 352 [(0, .ref o)] [] := by
    intro S1 hT
    have hT2 : CA E S o tb12 27 S1 (up2 I o 18 (-1)) (up2 (up2 (up2 (up2 (up2 (up2 (up2 (up2 (up2 (up2 (up2 (up2 (up2 (up2 (up2 (up2 (up2 (up2 (up2 L (o + 15) 0 2552) (o + 15) 1 654910919) (o + 15) 2 15192243) (o + 15) 3 86486190) (o + 15) 4 659870194) (o + 15) 5 5170) (o + 15) 6 24165011) (o + 15) 7 824370) (o + 15) 8 441828) (o + 16) 0 824370) (o + 16) 1 146885) (o + 16) 2 404362868) (o + 16) 3 3747098803) (o + 16) 4 398548) (o + 16) 5 15192243) (o + 17) 0 12635795) (o + 17) 1 12889267) (o + 17) 2 13094067) (o + 17) 3 67155) := hT
    have hf := hT2.2.2.1.fr
    have hO : isO E S1 o 12 := ho.ext hT.2.1
    have hO2 : isO E (psh E S1 (13 + 0) 8) o 12 := hO.ext (P := fun _ => True) Ext.pu
    refine V_aload_n (pc := 352) dX12_init_352 rfl ?_
    refine V_bipush (pc := 353) (v := nI 8) dX12_init_353 (by decide) ?_
    refine V_newarray (pc := 355) (t := 0) dX12_init_355 (by decide) acI (by first | decide | omega) (by assumption) (by first | decide | omega) (by first | decide | omega) ?_
    refine V_putR (pc := 357) 12 48 dX12_init_357 flX12_131 (by decide) (by decide) (Or.inr ⟨rfl, rfl, rfl⟩) rfl rfl (by assumption) ?_
    exact s28 _ (hT2.st (k := 48) (t := 0) (n := 8) ho1 rfl (by decide))
  have s26 : ∀ S1, CA E S o tb12 26 S1 (up2 I o 18 (-1)) (up2 (up2 (up2 (up2 (up2 (up2 (up2 (up2 (up2 (up2 (up2 (up2 (up2 (up2 (up2 (up2 (up2 (up2 (up2 L (o + 15) 0 2552) (o + 15) 1 654910919) (o + 15) 2 15192243) (o + 15) 3 86486190) (o + 15) 4 659870194) (o + 15) 5 5170) (o + 15) 6 24165011) (o + 15) 7 824370) (o + 15) 8 441828) (o + 16) 0 824370) (o + 16) 1 146885) (o + 16) 2 404362868) (o + 16) 3 3747098803) (o + 16) 4 398548) (o + 16) 5 15192243) (o + 17) 0 12635795) (o + 17) 1 12889267) (o + 17) 2 13094067) (o + 17) 3 67155) → V E kX12_init (rmOf 1 35 24479) (QM E (P112 E S I L o) 35 24479) 26 22248 S1 (up2 I o 18 (-1)) (up2 (up2 (up2 (up2 (up2 (up2 (up2 (up2 (up2 (up2 (up2 (up2 (up2 (up2 (up2 (up2 (up2 (up2 (up2 L (o + 15) 0 2552) (o + 15) 1 654910919) (o + 15) 2 15192243) (o + 15) 3 86486190) (o + 15) 4 659870194) (o + 15) 5 5170) (o + 15) 6 24165011) (o + 15) 7 824370) (o + 15) 8 441828) (o + 16) 0 824370) (o + 16) 1 146885) (o + 16) 2 404362868) (o + 16) 3 3747098803) (o + 16) 4 398548) (o + 16) 5 15192243) (o + 17) 0 12635795) (o + 17) 1 12889267) (o + 17) 2 13094067) (o + 17) 3 67155) 343 [(0, .ref o)] [] := by
    intro S1 hT
    have hT2 : CA E S o tb12 26 S1 (up2 I o 18 (-1)) (up2 (up2 (up2 (up2 (up2 (up2 (up2 (up2 (up2 (up2 (up2 (up2 (up2 (up2 (up2 (up2 (up2 (up2 (up2 L (o + 15) 0 2552) (o + 15) 1 654910919) (o + 15) 2 15192243) (o + 15) 3 86486190) (o + 15) 4 659870194) (o + 15) 5 5170) (o + 15) 6 24165011) (o + 15) 7 824370) (o + 15) 8 441828) (o + 16) 0 824370) (o + 16) 1 146885) (o + 16) 2 404362868) (o + 16) 3 3747098803) (o + 16) 4 398548) (o + 16) 5 15192243) (o + 17) 0 12635795) (o + 17) 1 12889267) (o + 17) 2 13094067) (o + 17) 3 67155) := hT
    have hf := hT2.2.2.1.fr
    have hO : isO E S1 o 12 := ho.ext hT.2.1
    have hO2 : isO E (psh E S1 (13 + 0) 2048) o 12 := hO.ext (P := fun _ => True) Ext.pu
    refine V_aload_n (pc := 343) dX12_init_343 rfl ?_
    refine V_sipush (pc := 344) (v := nI 2048) dX12_init_344 (by decide) ?_
    refine V_newarray (pc := 347) (t := 0) dX12_init_347 (by decide) acI (by first | decide | omega) (by assumption) (by first | decide | omega) (by first | decide | omega) ?_
    refine V_putR (pc := 349) 12 47 dX12_init_349 flX12_128 (by decide) (by decide) (Or.inr ⟨rfl, rfl, rfl⟩) rfl rfl (by assumption) ?_
    exact s27 _ (hT2.st (k := 47) (t := 0) (n := 2048) ho1 rfl (by decide))
  have s25 : ∀ S1, CA E S o tb12 25 S1 (up2 I o 18 (-1)) (up2 (up2 (up2 (up2 (up2 (up2 (up2 (up2 (up2 (up2 (up2 (up2 (up2 (up2 (up2 (up2 (up2 (up2 (up2 L (o + 15) 0 2552) (o + 15) 1 654910919) (o + 15) 2 15192243) (o + 15) 3 86486190) (o + 15) 4 659870194) (o + 15) 5 5170) (o + 15) 6 24165011) (o + 15) 7 824370) (o + 15) 8 441828) (o + 16) 0 824370) (o + 16) 1 146885) (o + 16) 2 404362868) (o + 16) 3 3747098803) (o + 16) 4 398548) (o + 16) 5 15192243) (o + 17) 0 12635795) (o + 17) 1 12889267) (o + 17) 2 13094067) (o + 17) 3 67155) → V E kX12_init (rmOf 1 35 24479) (QM E (P112 E S I L o) 35 24479) 25 21800 S1 (up2 I o 18 (-1)) (up2 (up2 (up2 (up2 (up2 (up2 (up2 (up2 (up2 (up2 (up2 (up2 (up2 (up2 (up2 (up2 (up2 (up2 (up2 L (o + 15) 0 2552) (o + 15) 1 654910919) (o + 15) 2 15192243) (o + 15) 3 86486190) (o + 15) 4 659870194) (o + 15) 5 5170) (o + 15) 6 24165011) (o + 15) 7 824370) (o + 15) 8 441828) (o + 16) 0 824370) (o + 16) 1 146885) (o + 16) 2 404362868) (o + 16) 3 3747098803) (o + 16) 4 398548) (o + 16) 5 15192243) (o + 17) 0 12635795) (o + 17) 1 12889267) (o + 17) 2 13094067) (o + 17) 3 67155) 334 [(0, .ref o)] [] := by
    intro S1 hT
    have hT2 : CA E S o tb12 25 S1 (up2 I o 18 (-1)) (up2 (up2 (up2 (up2 (up2 (up2 (up2 (up2 (up2 (up2 (up2 (up2 (up2 (up2 (up2 (up2 (up2 (up2 (up2 L (o + 15) 0 2552) (o + 15) 1 654910919) (o + 15) 2 15192243) (o + 15) 3 86486190) (o + 15) 4 659870194) (o + 15) 5 5170) (o + 15) 6 24165011) (o + 15) 7 824370) (o + 15) 8 441828) (o + 16) 0 824370) (o + 16) 1 146885) (o + 16) 2 404362868) (o + 16) 3 3747098803) (o + 16) 4 398548) (o + 16) 5 15192243) (o + 17) 0 12635795) (o + 17) 1 12889267) (o + 17) 2 13094067) (o + 17) 3 67155) := hT
    have hf := hT2.2.2.1.fr
    have hO : isO E S1 o 12 := ho.ext hT.2.1
    have hO2 : isO E (psh E S1 (13 + 0) 448) o 12 := hO.ext (P := fun _ => True) Ext.pu
    refine V_aload_n (pc := 334) dX12_init_334 rfl ?_
    refine V_sipush (pc := 335) (v := nI 448) dX12_init_335 (by decide) ?_
    refine V_newarray (pc := 338) (t := 0) dX12_init_338 (by decide) acI (by first | decide | omega) (by assumption) (by first | decide | omega) (by first | decide | omega) ?_
    refine V_putR (pc := 340) 12 46 dX12_init_340 flX12_125 (by decide) (by decide) (Or.inr ⟨rfl, rfl, rfl⟩) rfl rfl (by assumption) ?_
    exact s26 _ (hT2.st (k := 46) (t := 0) (n := 448) ho1 rfl (by decide))
  have s24 : ∀ S1, CA E S o tb12 24 S1 (up2 I o 18 (-1)) (up2 (up2 (up2 (up2 (up2 (up2 (up2 (up2 (up2 (up2 (up2 (up2 (up2 (up2 (up2 (up2 (up2 (up2 (up2 L (o + 15) 0 2552) (o + 15) 1 654910919) (o + 15) 2 15192243) (o + 15) 3 86486190) (o + 15) 4 659870194) (o + 15) 5 5170) (o + 15) 6 24165011) (o + 15) 7 824370) (o + 15) 8 441828) (o + 16) 0 824370) (o + 16) 1 146885) (o + 16) 2 404362868) (o + 16) 3 3747098803) (o + 16) 4 398548) (o + 16) 5 15192243) (o + 17) 0 12635795) (o + 17) 1 12889267) (o + 17) 2 13094067) (o + 17) 3 67155) → V E kX12_init (rmOf 1 35 24479) (QM E (P112 E S I L o) 35 24479) 24 21764 S1 (up2 I o 18 (-1)) (up2 (up2 (up2 (up2 (up2 (up2 (up2 (up2 (up2 (up2 (up2 (up2 (up2 (up2 (up2 (up2 (up2 (up2 (up2 L (o + 15) 0 2552) (o + 15) 1 654910919) (o + 15) 2 15192243) (o + 15) 3 86486190) (o + 15) 4 659870194) (o + 15) 5 5170) (o + 15) 6 24165011) (o + 15) 7 824370) (o + 15) 8 441828) (o + 16) 0 824370) (o + 16) 1 146885) (o + 16) 2 404362868) (o + 16) 3 3747098803) (o + 16) 4 398548) (o + 16) 5 15192243) (o + 17) 0 12635795) (o + 17) 1 12889267) (o + 17) 2 13094067) (o + 17) 3 67155) 326 [(0, .ref o)] [] := by
    intro S1 hT
    have hT2 : CA E S o tb12 24 S1 (up2 I o 18 (-1)) (up2 (up2 (up2 (up2 (up2 (up2 (up2 (up2 (up2 (up2 (up2 (up2 (up2 (up2 (up2 (up2 (up2 (up2 (up2 L (o + 15) 0 2552) (o + 15) 1 654910919) (o + 15) 2 15192243) (o + 15) 3 86486190) (o + 15) 4 659870194) (o + 15) 5 5170) (o + 15) 6 24165011) (o + 15) 7 824370) (o + 15) 8 441828) (o + 16) 0 824370) (o + 16) 1 146885) (o + 16) 2 404362868) (o + 16) 3 3747098803) (o + 16) 4 398548) (o + 16) 5 15192243) (o + 17) 0 12635795) (o + 17) 1 12889267) (o + 17) 2 13094067) (o + 17) 3 67155) := hT
    have hf := hT2.2.2.1.fr
    have hO : isO E S1 o 12 := ho.ext hT.2.1
    have hO2 : isO E (psh E S1 (13 + 2) 36) o 12 := hO.ext (P := fun _ => True) Ext.pu
    refine V_aload_n (pc := 326) dX12_init_326 rfl ?_
    refine V_bipush (pc := 327) (v := nI 36) dX12_init_327 (by decide) ?_
    refine V_newarray (pc := 329) (t := 2) dX12_init_329 (by decide) acZ (by first | decide | omega) (by assumption) (by first | decide | omega) (by first | decide | omega) ?_
    refine V_putR (pc := 331) 12 45 dX12_init_331 flX12_122 (by decide) (by decide) (Or.inr ⟨rfl, rfl, rfl⟩) rfl rfl (by assumption) ?_
    exact s25 _ (hT2.st (k := 45) (t := 2) (n := 36) ho1 rfl (by decide))
  have s23 : ∀ S1, CA E S o tb12 23 S1 (up2 I o 18 (-1)) (up2 (up2 (up2 (up2 (up2 (up2 (up2 (up2 (up2 (up2 (up2 (up2 (up2 (up2 (up2 (up2 (up2 (up2 (up2 L (o + 15) 0 2552) (o + 15) 1 654910919) (o + 15) 2 15192243) (o + 15) 3 86486190) (o + 15) 4 659870194) (o + 15) 5 5170) (o + 15) 6 24165011) (o + 15) 7 824370) (o + 15) 8 441828) (o + 16) 0 824370) (o + 16) 1 146885) (o + 16) 2 404362868) (o + 16) 3 3747098803) (o + 16) 4 398548) (o + 16) 5 15192243) (o + 17) 0 12635795) (o + 17) 1 12889267) (o + 17) 2 13094067) (o + 17) 3 67155) → V E kX12_init (rmOf 1 35 24479) (QM E (P112 E S I L o) 35 24479) 23 21758 S1 (up2 I o 18 (-1)) (up2 (up2 (up2 (up2 (up2 (up2 (up2 (up2 (up2 (up2 (up2 (up2 (up2 (up2 (up2 (up2 (up2 (up2 (up2 L (o + 15) 0 2552) (o + 15) 1 654910919) (o + 15) 2 15192243) (o + 15) 3 86486190) (o + 15) 4 659870194) (o + 15) 5 5170) (o + 15) 6 24165011) (o + 15) 7 824370) (o + 15) 8 441828) (o + 16) 0 824370) (o + 16) 1 146885) (o + 16) 2 404362868) (o + 16) 3 3747098803) (o + 16) 4 398548) (o + 16) 5 15192243) (o + 17) 0 12635795) (o + 17) 1 12889267) (o + 17) 2 13094067) (o + 17) 3 67155) 318 [(0, .ref o)] [] := by
    intro S1 hT
    have hT2 : CA E S o tb12 23 S1 (up2 I o 18 (-1)) (up2 (up2 (up2 (up2 (up2 (up2 (up2 (up2 (up2 (up2 (up2 (up2 (up2 (up2 (up2 (up2 (up2 (up2 (up2 L (o + 15) 0 2552) (o + 15) 1 654910919) (o + 15) 2 15192243) (o + 15) 3 86486190) (o + 15) 4 659870194) (o + 15) 5 5170) (o + 15) 6 24165011) (o + 15) 7 824370) (o + 15) 8 441828) (o + 16) 0 824370) (o + 16) 1 146885) (o + 16) 2 404362868) (o + 16) 3 3747098803) (o + 16) 4 398548) (o + 16) 5 15192243) (o + 17) 0 12635795) (o + 17) 1 12889267) (o + 17) 2 13094067) (o + 17) 3 67155) := hT
    have hf := hT2.2.2.1.fr
    have hO : isO E S1 o 12 := ho.ext hT.2.1
    have hO2 : isO E (psh E S1 (13 + 0) 6) o 12 := hO.ext (P := fun _ => True) Ext.pu
    refine V_aload_n (pc := 318) dX12_init_318 rfl ?_
    refine V_bipush (pc := 319) (v := nI 6) dX12_init_319 (by decide) ?_
    refine V_newarray (pc := 321) (t := 0) dX12_init_321 (by decide) acI (by first | decide | omega) (by assumption) (by first | decide | omega) (by first | decide | omega) ?_
    refine V_putR (pc := 323) 12 44 dX12_init_323 flX12_119 (by decide) (by decide) (Or.inr ⟨rfl, rfl, rfl⟩) rfl rfl (by assumption) ?_
    exact s24 _ (hT2.st (k := 44) (t := 0) (n := 6) ho1 rfl (by decide))
  have s22 : ∀ S1, CA E S o tb12 22 S1 (up2 I o 18 (-1)) (up2 (up2 (up2 (up2 (up2 (up2 (up2 (up2 (up2 (up2 (up2 (up2 (up2 (up2 (up2 (up2 (up2 (up2 (up2 L (o + 15) 0 2552) (o + 15) 1 654910919) (o + 15) 2 15192243) (o + 15) 3 86486190) (o + 15) 4 659870194) (o + 15) 5 5170) (o + 15) 6 24165011) (o + 15) 7 824370) (o + 15) 8 441828) (o + 16) 0 824370) (o + 16) 1 146885) (o + 16) 2 404362868) (o + 16) 3 3747098803) (o + 16) 4 398548) (o + 16) 5 15192243) (o + 17) 0 12635795) (o + 17) 1 12889267) (o + 17) 2 13094067) (o + 17) 3 67155) → V E kX12_init (rmOf 1 35 24479) (QM E (P112 E S I L o) 35 24479) 22 21722 S1 (up2 I o 18 (-1)) (up2 (up2 (up2 (up2 (up2 (up2 (up2 (up2 (up2 (up2 (up2 (up2 (up2 (up2 (up2 (up2 (up2 (up2 (up2 L (o + 15) 0 2552) (o + 15) 1 654910919) (o + 15) 2 15192243) (o + 15) 3 86486190) (o + 15) 4 659870194) (o + 15) 5 5170) (o + 15) 6 24165011) (o + 15) 7 824370) (o + 15) 8 441828) (o + 16) 0 824370) (o + 16) 1 146885) (o + 16) 2 404362868) (o + 16) 3 3747098803) (o + 16) 4 398548) (o + 16) 5 15192243) (o + 17) 0 12635795) (o + 17) 1 12889267) (o + 17) 2 13094067) (o + 17) 3 67155) 310 [(0, .ref o)] [] := by
    intro S1 hT
    have hT2 : CA E S o tb12 22 S1 (up2 I o 18 (-1)) (up2 (up2 (up2 (up2 (up2 (up2 (up2 (up2 (up2 (up2 (up2 (up2 (up2 (up2 (up2 (up2 (up2 (up2 (up2 L (o + 15) 0 2552) (o + 15) 1 654910919) (o + 15) 2 15192243) (o + 15) 3 86486190) (o + 15) 4 659870194) (o + 15) 5 5170) (o + 15) 6 24165011) (o + 15) 7 824370) (o + 15) 8 441828) (o + 16) 0 824370) (o + 16) 1 146885) (o + 16) 2 404362868) (o + 16) 3 3747098803) (o + 16) 4 398548) (o + 16) 5 15192243) (o + 17) 0 12635795) (o + 17) 1 12889267) (o + 17) 2 13094067) (o + 17) 3 67155) := hT
    have hf := hT2.2.2.1.fr
    have hO : isO E S1 o 12 := ho.ext hT.2.1
    have hO2 : isO E (psh E S1 (13 + 0) 36) o 12 := hO.ext (P := fun _ => True) Ext.pu
    refine V_aload_n (pc := 310) dX12_init_310 rfl ?_
    refine V_bipush (pc := 311) (v := nI 36) dX12_init_311 (by decide) ?_
    refine V_newarray (pc := 313) (t := 0) dX12_init_313 (by decide) acI (by first | decide | omega) (by assumption) (by first | decide | omega) (by first | decide | omega) ?_
    refine V_putR (pc := 315) 12 43 dX12_init_315 flX12_116 (by decide) (by decide) (Or.inr ⟨rfl, rfl, rfl⟩) rfl rfl (by assumption) ?_
    exact s23 _ (hT2.st (k := 43) (t := 0) (n := 36) ho1 rfl (by decide))
  have s21 : ∀ S1, CA E S o tb12 21 S1 (up2 I o 18 (-1)) (up2 (up2 (up2 (up2 (up2 (up2 (up2 (up2 (up2 (up2 (up2 (up2 (up2 (up2 (up2 (up2 (up2 (up2 (up2 L (o + 15) 0 2552) (o + 15) 1 654910919) (o + 15) 2 15192243) (o + 15) 3 86486190) (o + 15) 4 659870194) (o + 15) 5 5170) (o + 15) 6 24165011) (o + 15) 7 824370) (o + 15) 8 441828) (o + 16) 0 824370) (o + 16) 1 146885) (o + 16) 2 404362868) (o + 16) 3 3747098803) (o + 16) 4 398548) (o + 16) 5 15192243) (o + 17) 0 12635795) (o + 17) 1 12889267) (o + 17) 2 13094067) (o + 17) 3 67155) → V E kX12_init (rmOf 1 35 24479) (QM E (P112 E S I L o) 35 24479) 21 21686 S1 (up2 I o 18 (-1)) (up2 (up2 (up2 (up2 (up2 (up2 (up2 (up2 (up2 (up2 (up2 (up2 (up2 (up2 (up2 (up2 (up2 (up2 (up2 L (o + 15) 0 2552) (o + 15) 1 654910919) (o + 15) 2 15192243) (o + 15) 3 86486190) (o + 15) 4 659870194) (o + 15) 5 5170) (o + 15) 6 24165011) (o + 15) 7 824370) (o + 15) 8 441828) (o + 16) 0 824370) (o + 16) 1 146885) (o + 16) 2 404362868) (o + 16) 3 3747098803) (o + 16) 4 398548) (o + 16) 5 15192243) (o + 17) 0 12635795) (o + 17) 1 12889267) (o + 17) 2 13094067) (o + 17) 3 67155) 302 [(0, .ref o)] [] := by
    intro S1 hT
    have hT2 : CA E S o tb12 21 S1 (up2 I o 18 (-1)) (up2 (up2 (up2 (up2 (up2 (up2 (up2 (up2 (up2 (up2 (up2 (up2 (up2 (up2 (up2 (up2 (up2 (up2 (up2 L (o + 15) 0 2552) (o + 15) 1 654910919) (o + 15) 2 15192243) (o + 15) 3 86486190) (o + 15) 4 659870194) (o + 15) 5 5170) (o + 15) 6 24165011) (o + 15) 7 824370) (o + 15) 8 441828) (o + 16) 0 824370) (o + 16) 1 146885) (o + 16) 2 404362868) (o + 16) 3 3747098803) (o + 16) 4 398548) (o + 16) 5 15192243) (o + 17) 0 12635795) (o + 17) 1 12889267) (o + 17) 2 13094067) (o + 17) 3 67155) := hT
    have hf := hT2.2.2.1.fr
    have hO : isO E S1 o 12 := ho.ext hT.2.1
    have hO2 : isO E (psh E S1 (13 + 0) 36) o 12 := hO.ext (P := fun _ => True) Ext.pu
    refine V_aload_n (pc := 302) dX12_init_302 rfl ?_
    refine V_bipush (pc := 303) (v := nI 36) dX12_init_303 (by decide) ?_
    refine V_newarray (pc := 305) (t := 0) dX12_init_305 (by decide) acI (by first | decide | omega) (by assumption) (by first | decide | omega) (by first | decide | omega) ?_
    refine V_putR (pc := 307) 12 42 dX12_init_307 flX12_113 (by decide) (by decide) (Or.inr ⟨rfl, rfl, rfl⟩) rfl rfl (by assumption) ?_
    exact s22 _ (hT2.st (k := 42) (t := 0) (n := 36) ho1 rfl (by decide))
  have s20 : ∀ S1, CA E S o tb12 20 S1 (up2 I o 18 (-1)) (up2 (up2 (up2 (up2 (up2 (up2 (up2 (up2 (up2 (up2 (up2 (up2 (up2 (up2 (up2 (up2 (up2 (up2 (up2 L (o + 15) 0 2552) (o + 15) 1 654910919) (o + 15) 2 15192243) (o + 15) 3 86486190) (o + 15) 4 659870194) (o + 15) 5 5170) (o + 15) 6 24165011) (o + 15) 7 824370) (o + 15) 8 441828) (o + 16) 0 824370) (o + 16) 1 146885) (o + 16) 2 404362868) (o + 16) 3 3747098803) (o + 16) 4 398548) (o + 16) 5 15192243) (o + 17) 0 12635795) (o + 17) 1 12889267) (o + 17) 2 13094067) (o + 17) 3 67155) → V E kX12_init (rmOf 1 35 24479) (QM E (P112 E S I L o) 35 24479) 20 21680 S1 (up2 I o 18 (-1)) (up2 (up2 (up2 (up2 (up2 (up2 (up2 (up2 (up2 (up2 (up2 (up2 (up2 (up2 (up2 (up2 (up2 (up2 (up2 L (o + 15) 0 2552) (o + 15) 1 654910919) (o + 15) 2 15192243) (o + 15) 3 86486190) (o + 15) 4 659870194) (o + 15) 5 5170) (o + 15) 6 24165011) (o + 15) 7 824370) (o + 15) 8 441828) (o + 16) 0 824370) (o + 16) 1 146885) (o + 16) 2 404362868) (o + 16) 3 3747098803) (o + 16) 4 398548) (o + 16) 5 15192243) (o + 17) 0 12635795) (o + 17) 1 12889267) (o + 17) 2 13094067) (o + 17) 3 67155) 294 [(0, .ref o)] [] := by
    intro S1 hT
    have hT2 : CA E S o tb12 20 S1 (up2 I o 18 (-1)) (up2 (up2 (up2 (up2 (up2 (up2 (up2 (up2 (up2 (up2 (up2 (up2 (up2 (up2 (up2 (up2 (up2 (up2 (up2 L (o + 15) 0 2552) (o + 15) 1 654910919) (o + 15) 2 15192243) (o + 15) 3 86486190) (o + 15) 4 659870194) (o + 15) 5 5170) (o + 15) 6 24165011) (o + 15) 7 824370) (o + 15) 8 441828) (o + 16) 0 824370) (o + 16) 1 146885) (o + 16) 2 404362868) (o + 16) 3 3747098803) (o + 16) 4 398548) (o + 16) 5 15192243) (o + 17) 0 12635795) (o + 17) 1 12889267) (o + 17) 2 13094067) (o + 17) 3 67155) := hT
    have hf := hT2.2.2.1.fr
    have hO : isO E S1 o 12 := ho.ext hT.2.1
    have hO2 : isO E (psh E S1 (13 + 0) 6) o 12 := hO.ext (P := fun _ => True) Ext.pu
    refine V_aload_n (pc := 294) dX12_init_294 rfl ?_
    refine V_bipush (pc := 295) (v := nI 6) dX12_init_295 (by decide) ?_
    refine V_newarray (pc := 297) (t := 0) dX12_init_297 (by decide) acI (by first | decide | omega) (by assumption) (by first | decide | omega) (by first | decide | omega) ?_
    refine V_putR (pc := 299) 12 41 dX12_init_299 flX12_110 (by decide) (by decide) (Or.inr ⟨rfl, rfl, rfl⟩) rfl rfl (by assumption) ?_
    exact s21 _ (hT2.st (k := 41) (t := 0) (n := 6) ho1 rfl (by decide))
  have s19 : ∀ S1, CA E S o tb12 19 S1 (up2 I o 18 (-1)) (up2 (up2 (up2 (up2 (up2 (up2 (up2 (up2 (up2 (up2 (up2 (up2 (up2 (up2 (up2 (up2 (up2 (up2 (up2 L (o + 15) 0 2552) (o + 15) 1 654910919) (o + 15) 2 15192243) (o + 15) 3 86486190) (o + 15) 4 659870194) (o + 15) 5 5170) (o + 15) 6 24165011) (o + 15) 7 824370) (o + 15) 8 441828) (o + 16) 0 824370) (o + 16) 1 146885) (o + 16) 2 404362868) (o + 16) 3 3747098803) (o + 16) 4 398548) (o + 16) 5 15192243) (o + 17) 0 12635795) (o + 17) 1 12889267) (o + 17) 2 13094067) (o + 17) 3 67155) → V E kX12_init (rmOf 1 35 24479) (QM E (P112 E S I L o) 35 24479) 19 21280 S1 (up2 I o 18 (-1)) (up2 (up2 (up2 (up2 (up2 (up2 (up2 (up2 (up2 (up2 (up2 (up2 (up2 (up2 (up2 (up2 (up2 (up2 (up2 L (o + 15) 0 2552) (o + 15) 1 654910919) (o + 15) 2 15192243) (o + 15) 3 86486190) (o + 15) 4 659870194) (o + 15) 5 5170) (o + 15) 6 24165011) (o + 15) 7 824370) (o + 15) 8 441828) (o + 16) 0 824370) (o + 16) 1 146885) (o + 16) 2 404362868) (o + 16) 3 3747098803) (o + 16) 4 398548) (o + 16) 5 15192243) (o + 17) 0 12635795) (o + 17) 1 12889267) (o + 17) 2 13094067) (o + 17) 3 67155) 285 [(0, .ref o)] [] := by
    intro S1 hT
    have hT2 : CA E S o tb12 19 S1 (up2 I o 18 (-1)) (up2 (up2 (up2 (up2 (up2 (up2 (up2 (up2 (up2 (up2 (up2 (up2 (up2 (up2 (up2 (up2 (up2 (up2 (up2 L (o + 15) 0 2552) (o + 15) 1 654910919) (o + 15) 2 15192243) (o + 15) 3 86486190) (o + 15) 4 659870194) (o + 15) 5 5170) (o + 15) 6 24165011) (o + 15) 7 824370) (o + 15) 8 441828) (o + 16) 0 824370) (o + 16) 1 146885) (o + 16) 2 404362868) (o + 16) 3 3747098803) (o + 16) 4 398548) (o + 16) 5 15192243) (o + 17) 0 12635795) (o + 17) 1 12889267) (o + 17) 2 13094067) (o + 17) 3 67155) := hT
    have hf := hT2.2.2.1.fr
    have hO : isO E S1 o 12 := ho.ext hT.2.1
    have hO2 : isO E (psh E S1 (13 + 1) 400) o 12 := hO.ext (P := fun _ => True) Ext.pu
    refine V_aload_n (pc := 285) dX12_init_285 rfl ?_
    refine V_sipush (pc := 286) (v := nI 400) dX12_init_286 (by decide) ?_
    refine V_newarray (pc := 289) (t := 1) dX12_init_289 (by decide) acJ (by first | decide | omega) (by assumption) (by first | decide | omega) (by first | decide | omega) ?_
    refine V_putR (pc := 291) 12 37 dX12_init_291 flX12_107 (by decide) (by decide) (Or.inr ⟨rfl, rfl, rfl⟩) rfl rfl (by assumption) ?_
    exact s20 _ (hT2.st (k := 37) (t := 1) (n := 400) ho1 rfl (by decide))
  have s18 : ∀ S1, CA E S o tb12 18 S1 (up2 I o 18 (-1)) (up2 (up2 (up2 (up2 (up2 (up2 (up2 (up2 (up2 (up2 (up2 (up2 (up2 (up2 (up2 (up2 (up2 (up2 (up2 L (o + 15) 0 2552) (o + 15) 1 654910919) (o + 15) 2 15192243) (o + 15) 3 86486190) (o + 15) 4 659870194) (o + 15) 5 5170) (o + 15) 6 24165011) (o + 15) 7 824370) (o + 15) 8 441828) (o + 16) 0 824370) (o + 16) 1 146885) (o + 16) 2 404362868) (o + 16) 3 3747098803) (o + 16) 4 398548) (o + 16) 5 15192243) (o + 17) 0 12635795) (o + 17) 1 12889267) (o + 17) 2 13094067) (o + 17) 3 67155) → V E kX12_init (rmOf 1 35 24479) (QM E (P112 E S I L o) 35 24479) 18 21267 S1 (up2 I o 18 (-1)) (up2 (up2 (up2 (up2 (up2 (up2 (up2 (up2 (up2 (up2 (up2 (up2 (up2 (up2 (up2 (up2 (up2 (up2 (up2 L (o + 15) 0 2552) (o + 15) 1 654910919) (o + 15) 2 15192243) (o + 15) 3 86486190) (o + 15) 4 659870194) (o + 15) 5 5170) (o + 15) 6 24165011) (o + 15) 7 824370) (o + 15) 8 441828) (o + 16) 0 824370) (o + 16) 1 146885) (o + 16) 2 404362868) (o + 16) 3 3747098803) (o + 16) 4 398548) (o + 16) 5 15192243) (o + 17) 0 12635795) (o + 17) 1 12889267) (o + 17) 2 13094067) (o + 17) 3 67155) 277 [(0, .ref o)] [] := by
    intro S1 hT
    have hT2 : CA E S o tb12 18 S1 (up2 I o 18 (-1)) (up2 (up2 (up2 (up2 (up2 (up2 (up2 (up2 (up2 (up2 (up2 (up2 (up2 (up2 (up2 (up2 (up2 (up2 (up2 L (o + 15) 0 2552) (o + 15) 1 654910919) (o + 15) 2 15192243) (o + 15) 3 86486190) (o + 15) 4 659870194) (o + 15) 5 5170) (o + 15) 6 24165011) (o + 15) 7 824370) (o + 15) 8 441828) (o + 16) 0 824370) (o + 16) 1 146885) (o + 16) 2 404362868) (o + 16) 3 3747098803) (o + 16) 4 398548) (o + 16) 5 15192243) (o + 17) 0 12635795) (o + 17) 1 12889267) (o + 17) 2 13094067) (o + 17) 3 67155) := hT
    have hf := hT2.2.2.1.fr
    have hO : isO E S1 o 12 := ho.ext hT.2.1
    have hO2 : isO E (psh E S1 (13 + 1) 13) o 12 := hO.ext (P := fun _ => True) Ext.pu
    refine V_aload_n (pc := 277) dX12_init_277 rfl ?_
    refine V_bipush (pc := 278) (v := nI 13) dX12_init_278 (by decide) ?_
    refine V_newarray (pc := 280) (t := 1) dX12_init_280 (by decide) acJ (by first | decide | omega) (by assumption) (by first | decide | omega) (by first | decide | omega) ?_
    refine V_putR (pc := 282) 12 36 dX12_init_282 flX12_104 (by decide) (by decide) (Or.inr ⟨rfl, rfl, rfl⟩) rfl rfl (by assumption) ?_
    exact s19 _ (hT2.st (k := 36) (t := 1) (n := 13) ho1 rfl (by decide))
  have s17 : ∀ S1, CA E S o tb12 17 S1 (up2 I o 18 (-1)) (up2 (up2 (up2 (up2 (up2 (up2 (up2 (up2 (up2 (up2 (up2 (up2 (up2 (up2 (up2 (up2 (up2 (up2 (up2 L (o + 15) 0 2552) (o + 15) 1 654910919) (o + 15) 2 15192243) (o + 15) 3 86486190) (o + 15) 4 659870194) (o + 15) 5 5170) (o + 15) 6 24165011) (o + 15) 7 824370) (o + 15) 8 441828) (o + 16) 0 824370) (o + 16) 1 146885) (o + 16) 2 404362868) (o + 16) 3 3747098803) (o + 16) 4 398548) (o + 16) 5 15192243) (o + 17) 0 12635795) (o + 17) 1 12889267) (o + 17) 2 13094067) (o + 17) 3 67155) → V E kX12_init (rmOf 1 35 24479) (QM E (P112 E S I L o) 35 24479) 17 21254 S1 (up2 I o 18 (-1)) (up2 (up2 (up2 (up2 (up2 (up2 (up2 (up2 (up2 (up2 (up2 (up2 (up2 (up2 (up2 (up2 (up2 (up2 (up2 L (o + 15) 0 2552) (o + 15) 1 654910919) (o + 15) 2 15192243) (o + 15) 3 86486190) (o + 15) 4 659870194) (o + 15) 5 5170) (o + 15) 6 24165011) (o + 15) 7 824370) (o + 15) 8 441828) (o + 16) 0 824370) (o + 16) 1 146885) (o + 16) 2 404362868) (o + 16) 3 3747098803) (o + 16) 4 398548) (o + 16) 5 15192243) (o + 17) 0 12635795) (o + 17) 1 12889267) (o + 17) 2 13094067) (o + 17) 3 67155) 269 [(0, .ref o)] [] := by
    intro S1 hT
    have hT2 : CA E S o tb12 17 S1 (up2 I o 18 (-1)) (up2 (up2 (up2 (up2 (up2 (up2 (up2 (up2 (up2 (up2 (up2 (up2 (up2 (up2 (up2 (up2 (up2 (up2 (up2 L (o + 15) 0 2552) (o + 15) 1 654910919) (o + 15) 2 15192243) (o + 15) 3 86486190) (o + 15) 4 659870194) (o + 15) 5 5170) (o + 15) 6 24165011) (o + 15) 7 824370) (o + 15) 8 441828) (o + 16) 0 824370) (o + 16) 1 146885) (o + 16) 2 404362868) (o + 16) 3 3747098803) (o + 16) 4 398548) (o + 16) 5 15192243) (o + 17) 0 12635795) (o + 17) 1 12889267) (o + 17) 2 13094067) (o + 17) 3 67155) := hT
    have hf := hT2.2.2.1.fr
    have hO : isO E S1 o 12 := ho.ext hT.2.1
    have hO2 : isO E (psh E S1 (13 + 1) 13) o 12 := hO.ext (P := fun _ => True) Ext.pu
    refine V_aload_n (pc := 269) dX12_init_269 rfl ?_
    refine V_bipush (pc := 270) (v := nI 13) dX12_init_270 (by decide) ?_
    refine V_newarray (pc := 272) (t := 1) dX12_init_272 (by decide) acJ (by first | decide | omega) (by assumption) (by first | decide | omega) (by first | decide | omega) ?_
    refine V_putR (pc := 274) 12 35 dX12_init_274 flX12_101 (by decide) (by decide) (Or.inr ⟨rfl, rfl, rfl⟩) rfl rfl (by assumption) ?_
    exact s18 _ (hT2.st (k := 35) (t := 1) (n := 13) ho1 rfl (by decide))
  have s16 : ∀ S1, CA E S o tb12 16 S1 (up2 I o 18 (-1)) (up2 (up2 (up2 (up2 (up2 (up2 (up2 (up2 (up2 (up2 (up2 (up2 (up2 (up2 (up2 L (o + 15) 0 2552) (o + 15) 1 654910919) (o + 15) 2 15192243) (o + 15) 3 86486190) (o + 15) 4 659870194) (o + 15) 5 5170) (o + 15) 6 24165011) (o + 15) 7 824370) (o + 15) 8 441828) (o + 16) 0 824370) (o + 16) 1 146885) (o + 16) 2 404362868) (o + 16) 3 3747098803) (o + 16) 4 398548) (o + 16) 5 15192243) → V E kX12_init (rmOf 1 35 24479) (QM E (P112 E S I L o) 35 24479) 16 21250 S1 (up2 I o 18 (-1)) (up2 (up2 (up2 (up2 (up2 (up2 (up2 (up2 (up2 (up2 (up2 (up2 (up2 (up2 (up2 L (o + 15) 0 2552) (o + 15) 1 654910919) (o + 15) 2 15192243) (o + 15) 3 86486190) (o + 15) 4 659870194) (o + 15) 5 5170) (o + 15) 6 24165011) (o + 15) 7 824370) (o + 15) 8 441828) (o + 16) 0 824370) (o + 16) 1 146885) (o + 16) 2 404362868) (o + 16) 3 3747098803) (o + 16) 4 398548) (o + 16) 5 15192243) 238 [(0, .ref o)] [] := by
    intro S1 hT
    have hT2 : CA E S o tb12 16 S1 (up2 I o 18 (-1)) (up2 (up2 (up2 (up2 (up2 (up2 (up2 (up2 (up2 (up2 (up2 (up2 (up2 (up2 (up2 L (o + 15) 0 2552) (o + 15) 1 654910919) (o + 15) 2 15192243) (o + 15) 3 86486190) (o + 15) 4 659870194) (o + 15) 5 5170) (o + 15) 6 24165011) (o + 15) 7 824370) (o + 15) 8 441828) (o + 16) 0 824370) (o + 16) 1 146885) (o + 16) 2 404362868) (o + 16) 3 3747098803) (o + 16) 4 398548) (o + 16) 5 15192243) := hT
    have hf := hT2.2.2.1.fr
    have hO : isO E S1 o 12 := ho.ext hT.2.1
    have hO2 : isO E (psh E S1 (13 + 1) 4) o 12 := hO.ext (P := fun _ => True) Ext.pu
    have e : eB E + S1.1 = o + 17 := by have := hT.1; omega
    have hA1 : isA E (psh E S1 (13 + 1) 4) (eB E + S1.1) 1 4 := isA_psh
    refine V_aload_n (pc := 238) dX12_init_238 rfl ?_
    refine V_iconst (pc := 239) (v := nI 4) dX12_init_239 (by decide) ?_
    refine V_newarray (pc := 240) (t := 1) dX12_init_240 (by decide) acJ (by first | decide | omega) (by assumption) (by first | decide | omega) (by first | decide | omega) ?_
    refine V_dup (pc := 242) dX12_init_242 rfl ?_
    refine V_iconst (pc := 243) (v := nI 0) dX12_init_243 (by decide) ?_
    refine V_ldc2 (pc := 244) dX12_init_244 coX12_90 ?_
    refine V_lastore (pc := 247) dX12_init_247 (by assumption) (by first | decide | omega) (by omega) ?_
    refine V_dup (pc := 248) dX12_init_248 rfl ?_
    refine V_iconst (pc := 249) (v := nI 1) dX12_init_249 (by decide) ?_
    refine V_ldc2 (pc := 250) dX12_init_250 coX12_92 ?_
    refine V_lastore (pc := 253) dX12_init_253 (by assumption) (by first | decide | omega) (by omega) ?_
    refine V_dup (pc := 254) dX12_init_254 rfl ?_
    refine V_iconst (pc := 255) (v := nI 2) dX12_init_255 (by decide) ?_
    refine V_ldc2 (pc := 256) dX12_init_256 coX12_94 ?_
    refine V_lastore (pc := 259) dX12_init_259 (by assumption) (by first | decide | omega) (by omega) ?_
    refine V_dup (pc := 260) dX12_init_260 rfl ?_
    refine V_iconst (pc := 261) (v := nI 3) dX12_init_261 (by decide) ?_
    refine V_ldc2 (pc := 262) dX12_init_262 coX12_96 ?_
    refine V_lastore (pc := 265) dX12_init_265 (by assumption) (by first | decide | omega) (by omega) ?_
    refine V_putR (pc := 266) 12 33 dX12_init_266 flX12_98 (by decide) (by decide) (Or.inr ⟨rfl, rfl, rfl⟩) rfl rfl (by assumption) ?_
    rw [e]
    have hN := hT2.st (k := 33) (t := 1) (n := 4) ho1 rfl (by decide)
    rw [e] at hN
    exact s17 _ ((((hN.uL ho1 (by omega)).uL ho1 (by omega)).uL ho1 (by omega)).uL ho1 (by omega))
  have s15 : ∀ S1, CA E S o tb12 15 S1 (up2 I o 18 (-1)) (up2 (up2 (up2 (up2 (up2 (up2 (up2 (up2 (up2 L (o + 15) 0 2552) (o + 15) 1 654910919) (o + 15) 2 15192243) (o + 15) 3 86486190) (o + 15) 4 659870194) (o + 15) 5 5170) (o + 15) 6 24165011) (o + 15) 7 824370) (o + 15) 8 441828) → V E kX12_init (rmOf 1 35 24479) (QM E (P112 E S I L o) 35 24479) 15 21244 S1 (up2 I o 18 (-1)) (up2 (up2 (up2 (up2 (up2 (up2 (up2 (up2 (up2 L (o + 15) 0 2552) (o + 15) 1 654910919) (o + 15) 2 15192243) (o + 15) 3 86486190) (o + 15) 4 659870194) (o + 15) 5 5170) (o + 15) 6 24165011) (o + 15) 7 824370) (o + 15) 8 441828) 194 [(0, .ref o)] [] := by
    intro S1 hT
    have hT2 : CA E S o tb12 15 S1 (up2 I o 18 (-1)) (up2 (up2 (up2 (up2 (up2 (up2 (up2 (up2 (up2 L (o + 15) 0 2552) (o + 15) 1 654910919) (o + 15) 2 15192243) (o + 15) 3 86486190) (o + 15) 4 659870194) (o + 15) 5 5170) (o + 15) 6 24165011) (o + 15) 7 824370) (o + 15) 8 441828) := hT
    have hf := hT2.2.2.1.fr
    have hO : isO E S1 o 12 := ho.ext hT.2.1
    have hO2 : isO E (psh E S1 (13 + 1) 6) o 12 := hO.ext (P := fun _ => True) Ext.pu
    have e : eB E + S1.1 = o + 16 := by have := hT.1; omega
    have hA1 : isA E (psh E S1 (13 + 1) 6) (eB E + S1.1) 1 6 := isA_psh
    refine V_aload_n (pc := 194) dX12_init_194 rfl ?_
    refine V_bipush (pc := 195) (v := nI 6) dX12_init_195 (by decide) ?_
    refine V_newarray (pc := 197) (t := 1) dX12_init_197 (by decide) acJ (by first | decide | omega) (by assumption) (by first | decide | omega) (by first | decide | omega) ?_
    refine V_dup (pc := 199) dX12_init_199 rfl ?_
    refine V_iconst (pc := 200) (v := nI 0) dX12_init_200 (by decide) ?_
    refine V_ldc2 (pc := 201) dX12_init_201 coX12_71 ?_
    refine V_lastore (pc := 204) dX12_init_204 (by assumption) (by first | decide | omega) (by omega) ?_
    refine V_dup (pc := 205) dX12_init_205 rfl ?_
    refine V_iconst (pc := 206) (v := nI 1) dX12_init_206 (by decide) ?_
    refine V_ldc2 (pc := 207) dX12_init_207 coX12_79 ?_
    refine V_lastore (pc := 210) dX12_init_210 (by assumption) (by first | decide | omega) (by omega) ?_
    refine V_dup (pc := 211) dX12_init_211 rfl ?_
    refine V_iconst (pc := 212) (v := nI 2) dX12_init_212 (by decide) ?_
    refine V_ldc2 (pc := 213) dX12_init_213 coX12_81 ?_
    refine V_lastore (pc := 216) dX12_init_216 (by assumption) (by first | decide | omega) (by omega) ?_
    refine V_dup (pc := 217) dX12_init_217 rfl ?_
    refine V_iconst (pc := 218) (v := nI 3) dX12_init_218 (by decide) ?_
    refine V_ldc2 (pc := 219) dX12_init_219 coX12_83 ?_
    refine V_lastore (pc := 222) dX12_init_222 (by assumption) (by first | decide | omega) (by omega) ?_
    refine V_dup (pc := 223) dX12_init_223 rfl ?_
    refine V_iconst (pc := 224) (v := nI 4) dX12_init_224 (by decide) ?_
    refine V_ldc2 (pc := 225) dX12_init_225 coX12_85 ?_
    refine V_lastore (pc := 228) dX12_init_228 (by assumption) (by first | decide | omega) (by omega) ?_
    refine V_dup (pc := 229) dX12_init_229 rfl ?_
    refine V_iconst (pc := 230) (v := nI 5) dX12_init_230 (by decide) ?_
    refine V_ldc2 (pc := 231) dX12_init_231 coX12_61 ?_
    refine V_lastore (pc := 234) dX12_init_234 (by assumption) (by first | decide | omega) (by omega) ?_
    refine V_putR (pc := 235) 12 32 dX12_init_235 flX12_87 (by decide) (by decide) (Or.inr ⟨rfl, rfl, rfl⟩) rfl rfl (by assumption) ?_
    rw [e]
    have hN := hT2.st (k := 32) (t := 1) (n := 6) ho1 rfl (by decide)
    rw [e] at hN
    exact s16 _ ((((((hN.uL ho1 (by omega)).uL ho1 (by omega)).uL ho1 (by omega)).uL ho1 (by omega)).uL ho1 (by omega)).uL ho1 (by omega))
  have s14 : ∀ S1, CA E S o tb12 14 S1 (up2 I o 18 (-1)) L → V E kX12_init (rmOf 1 35 24479) (QM E (P112 E S I L o) 35 24479) 14 21235 S1 (up2 I o 18 (-1)) L 129 [(0, .ref o)] [] := by
    intro S1 hT
    have hT2 : CA E S o tb12 14 S1 (up2 I o 18 (-1)) L := hT
    have hf := hT2.2.2.1.fr
    have hO : isO E S1 o 12 := ho.ext hT.2.1
    have hO2 : isO E (psh E S1 (13 + 1) 9) o 12 := hO.ext (P := fun _ => True) Ext.pu
    have e : eB E + S1.1 = o + 15 := by have := hT.1; omega
    have hA1 : isA E (psh E S1 (13 + 1) 9) (eB E + S1.1) 1 9 := isA_psh
    refine V_aload_n (pc := 129) dX12_init_129 rfl ?_
    refine V_bipush (pc := 130) (v := nI 9) dX12_init_130 (by decide) ?_
    refine V_newarray (pc := 132) (t := 1) dX12_init_132 (by decide) acJ (by first | decide | omega) (by assumption) (by first | decide | omega) (by first | decide | omega) ?_
    refine V_dup (pc := 134) dX12_init_134 rfl ?_
    refine V_iconst (pc := 135) (v := nI 0) dX12_init_135 (by decide) ?_
    refine V_ldc2 (pc := 136) dX12_init_136 coX12_57 ?_
    refine V_lastore (pc := 139) dX12_init_139 (by assumption) (by first | decide | omega) (by omega) ?_
    refine V_dup (pc := 140) dX12_init_140 rfl ?_
    refine V_iconst (pc := 141) (v := nI 1) dX12_init_141 (by decide) ?_
    refine V_ldc2 (pc := 142) dX12_init_142 coX12_59 ?_
    refine V_lastore (pc := 145) dX12_init_145 (by assumption) (by first | decide | omega) (by omega) ?_
    refine V_dup (pc := 146) dX12_init_146 rfl ?_
    refine V_iconst (pc := 147) (v := nI 2) dX12_init_147 (by decide) ?_
    refine V_ldc2 (pc := 148) dX12_init_148 coX12_61 ?_
    refine V_lastore (pc := 151) dX12_init_151 (by assumption) (by first | decide | omega) (by omega) ?_
    refine V_dup (pc := 152) dX12_init_152 rfl ?_
    refine V_iconst (pc := 153) (v := nI 3) dX12_init_153 (by decide) ?_
    refine V_ldc2 (pc := 154) dX12_init_154 coX12_63 ?_
    refine V_lastore (pc := 157) dX12_init_157 (by assumption) (by first | decide | omega) (by omega) ?_
    refine V_dup (pc := 158) dX12_init_158 rfl ?_
    refine V_iconst (pc := 159) (v := nI 4) dX12_init_159 (by decide) ?_
    refine V_ldc2 (pc := 160) dX12_init_160 coX12_65 ?_
    refine V_lastore (pc := 163) dX12_init_163 (by assumption) (by first | decide | omega) (by omega) ?_
    refine V_dup (pc := 164) dX12_init_164 rfl ?_
    refine V_iconst (pc := 165) (v := nI 5) dX12_init_165 (by decide) ?_
    refine V_ldc2 (pc := 166) dX12_init_166 coX12_67 ?_
    refine V_lastore (pc := 169) dX12_init_169 (by assumption) (by first | decide | omega) (by omega) ?_
    refine V_dup (pc := 170) dX12_init_170 rfl ?_
    refine V_bipush (pc := 171) (v := nI 6) dX12_init_171 (by decide) ?_
    refine V_ldc2 (pc := 173) dX12_init_173 coX12_69 ?_
    refine V_lastore (pc := 176) dX12_init_176 (by assumption) (by first | decide | omega) (by omega) ?_
    refine V_dup (pc := 177) dX12_init_177 rfl ?_
    refine V_bipush (pc := 178) (v := nI 7) dX12_init_178 (by decide) ?_
    refine V_ldc2 (pc := 180) dX12_init_180 coX12_71 ?_
    refine V_lastore (pc := 183) dX12_init_183 (by assumption) (by first | decide | omega) (by omega) ?_
    refine V_dup (pc := 184) dX12_init_184 rfl ?_
    refine V_bipush (pc := 185) (v := nI 8) dX12_init_185 (by decide) ?_
    refine V_ldc2 (pc := 187) dX12_init_187 coX12_73 ?_
    refine V_lastore (pc := 190) dX12_init_190 (by assumption) (by first | decide | omega) (by omega) ?_
    refine V_putR (pc := 191) 12 31 dX12_init_191 flX12_75 (by decide) (by decide) (Or.inr ⟨rfl, rfl, rfl⟩) rfl rfl (by assumption) ?_
    rw [e]
    have hN := hT2.st (k := 31) (t := 1) (n := 9) ho1 rfl (by decide)
    rw [e] at hN
    exact s15 _ (((((((((hN.uL ho1 (by omega)).uL ho1 (by omega)).uL ho1 (by omega)).uL ho1 (by omega)).uL ho1 (by omega)).uL ho1 (by omega)).uL ho1 (by omega)).uL ho1 (by omega)).uL ho1 (by omega))
  have s13 : ∀ S1, CA E S o tb12 13 S1 (up2 I o 18 (-1)) L → V E kX12_init (rmOf 1 35 24479) (QM E (P112 E S I L o) 35 24479) 13 20835 S1 (up2 I o 18 (-1)) L 120 [(0, .ref o)] [] := by
    intro S1 hT
    have hT2 : CA E S o tb12 13 S1 (up2 I o 18 (-1)) L := hT
    have hf := hT2.2.2.1.fr
    have hO : isO E S1 o 12 := ho.ext hT.2.1
    have hO2 : isO E (psh E S1 (13 + 0) 400) o 12 := hO.ext (P := fun _ => True) Ext.pu
    refine V_aload_n (pc := 120) dX12_init_120 rfl ?_
    refine V_sipush (pc := 121) (v := nI 400) dX12_init_121 (by decide) ?_
    refine V_newarray (pc := 124) (t := 0) dX12_init_124 (by decide) acI (by first | decide | omega) (by assumption) (by first | decide | omega) (by first | decide | omega) ?_
    refine V_putR (pc := 126) 12 28 dX12_init_126 flX12_54 (by decide) (by decide) (Or.inr ⟨rfl, rfl, rfl⟩) rfl rfl (by assumption) ?_
    exact s14 _ (hT2.st (k := 28) (t := 0) (n := 400) ho1 rfl (by decide))
  have s12 : ∀ S1, CA E S o tb12 12 S1 (up2 I o 18 (-1)) L → V E kX12_init (rmOf 1 35 24479) (QM E (P112 E S I L o) 35 24479) 12 20435 S1 (up2 I o 18 (-1)) L 111 [(0, .ref o)] [] := by
    intro S1 hT
    have hT2 : CA E S o tb12 12 S1 (up2 I o 18 (-1)) L := hT
    have hf := hT2.2.2.1.fr
    have hO : isO E S1 o 12 := ho.ext hT.2.1
    have hO2 : isO E (psh E S1 (13 + 0) 400) o 12 := hO.ext (P := fun _ => True) Ext.pu
    refine V_aload_n (pc := 111) dX12_init_111 rfl ?_
    refine V_sipush (pc := 112) (v := nI 400) dX12_init_112 (by decide) ?_
    refine V_newarray (pc := 115) (t := 0) dX12_init_115 (by decide) acI (by first | decide | omega) (by assumption) (by first | decide | omega) (by first | decide | omega) ?_
    refine V_putR (pc := 117) 12 27 dX12_init_117 flX12_51 (by decide) (by decide) (Or.inr ⟨rfl, rfl, rfl⟩) rfl rfl (by assumption) ?_
    exact s13 _ (hT2.st (k := 27) (t := 0) (n := 400) ho1 rfl (by decide))
  have s11 : ∀ S1, CA E S o tb12 11 S1 (up2 I o 18 (-1)) L → V E kX12_init (rmOf 1 35 24479) (QM E (P112 E S I L o) 35 24479) 11 20035 S1 (up2 I o 18 (-1)) L 102 [(0, .ref o)] [] := by
    intro S1 hT
    have hT2 : CA E S o tb12 11 S1 (up2 I o 18 (-1)) L := hT
    have hf := hT2.2.2.1.fr
    have hO : isO E S1 o 12 := ho.ext hT.2.1
    have hO2 : isO E (psh E S1 (13 + 0) 400) o 12 := hO.ext (P := fun _ => True) Ext.pu
    refine V_aload_n (pc := 102) dX12_init_102 rfl ?_
    refine V_sipush (pc := 103) (v := nI 400) dX12_init_103 (by decide) ?_
    refine V_newarray (pc := 106) (t := 0) dX12_init_106 (by decide) acI (by first | decide | omega) (by assumption) (by first | decide | omega) (by first | decide | omega) ?_
    refine V_putR (pc := 108) 12 25 dX12_init_108 flX12_48 (by decide) (by decide) (Or.inr ⟨rfl, rfl, rfl⟩) rfl rfl (by assumption) ?_
    exact s12 _ (hT2.st (k := 25) (t := 0) (n := 400) ho1 rfl (by decide))
  have s10 : ∀ S1, CA E S o tb12 10 S1 (up2 I o 18 (-1)) L → V E kX12_init (rmOf 1 35 24479) (QM E (P112 E S I L o) 35 24479) 10 19635 S1 (up2 I o 18 (-1)) L 93 [(0, .ref o)] [] := by
    intro S1 hT
    have hT2 : CA E S o tb12 10 S1 (up2 I o 18 (-1)) L := hT
    have hf := hT2.2.2.1.fr
    have hO : isO E S1 o 12 := ho.ext hT.2.1
    have hO2 : isO E (psh E S1 (13 + 0) 400) o 12 := hO.ext (P := fun _ => True) Ext.pu
    refine V_aload_n (pc := 93) dX12_init_93 rfl ?_
    refine V_sipush (pc := 94) (v := nI 400) dX12_init_94 (by decide) ?_
    refine V_newarray (pc := 97) (t := 0) dX12_init_97 (by decide) acI (by first | decide | omega) (by assumption) (by first | decide | omega) (by first | decide | omega) ?_
    refine V_putR (pc := 99) 12 24 dX12_init_99 flX12_45 (by decide) (by decide) (Or.inr ⟨rfl, rfl, rfl⟩) rfl rfl (by assumption) ?_
    exact s11 _ (hT2.st (k := 24) (t := 0) (n := 400) ho1 rfl (by decide))
  have s9 : ∀ S1, CA E S o tb12 9 S1 I L → V E kX12_init (rmOf 1 35 24479) (QM E (P112 E S I L o) 35 24479) 9 19539 S1 I L 80 [(0, .ref o)] [] := by
    intro S1 hT
    have hT2 : CA E S o tb12 9 S1 (up2 I o 18 (-1)) L := (hT.u ho1 (by omega))
    have hf := hT2.2.2.1.fr
    have hO : isO E S1 o 12 := ho.ext hT.2.1
    have hO2 : isO E (psh E S1 (13 + 0) 96) o 12 := hO.ext (P := fun _ => True) Ext.pu
    refine V_aload_n (pc := 80) dX12_init_80 rfl ?_
    refine V_iconst (pc := 81) (v := (-1)) dX12_init_81 (by decide) ?_
    refine V_putI (pc := 82) 12 18 dX12_init_82 flX12_38 (by decide) (by decide) (Or.inl rfl) rfl rfl (by assumption) ?_
    refine V_aload_n (pc := 85) dX12_init_85 rfl ?_
    refine V_bipush (pc := 86) (v := nI 96) dX12_init_86 (by decide) ?_
    refine V_newarray (pc := 88) (t := 0) dX12_init_88 (by decide) acI (by first | decide | omega) (by assumption) (by first | decide | omega) (by first | decide | omega) ?_
    refine V_putR (pc := 90) 12 22 dX12_init_90 flX12_42 (by decide) (by decide) (Or.inr ⟨rfl, rfl, rfl⟩) rfl rfl (by assumption) ?_
    exact s10 _ (hT2.st (k := 22) (t := 0) (n := 96) ho1 rfl (by decide))
  have s8 : ∀ S1, CA E S o tb12 8 S1 I L → V E kX12_init (rmOf 1 35 24479) (QM E (P112 E S I L o) 35 24479) 8 19139 S1 I L 71 [(0, .ref o)] [] := by
    intro S1 hT
    have hT2 : CA E S o tb12 8 S1 I L := hT
    have hf := hT2.2.2.1.fr
    have hO : isO E S1 o 12 := ho.ext hT.2.1
    have hO2 : isO E (psh E S1 (13 + 0) 400) o 12 := hO.ext (P := fun _ => True) Ext.pu
    refine V_aload_n (pc := 71) dX12_init_71 rfl ?_
    refine V_sipush (pc := 72) (v := nI 400) dX12_init_72 (by decide) ?_
    refine V_newarray (pc := 75) (t := 0) dX12_init_75 (by decide) acI (by first | decide | omega) (by assumption) (by first | decide | omega) (by first | decide | omega) ?_
    refine V_putR (pc := 77) 12 12 dX12_init_77 flX12_35 (by decide) (by decide) (Or.inr ⟨rfl, rfl, rfl⟩) rfl rfl (by assumption) ?_
    exact s9 _ (hT2.st (k := 12) (t := 0) (n := 400) ho1 rfl (by decide))
  have s7 : ∀ S1, CA E S o tb12 7 S1 I L → V E kX12_init (rmOf 1 35 24479) (QM E (P112 E S I L o) 35 24479) 7 19123 S1 I L 63 [(0, .ref o)] [] := by
    intro S1 hT
    have hT2 : CA E S o tb12 7 S1 I L := hT
    have hf := hT2.2.2.1.fr
    have hO : isO E S1 o 12 := ho.ext hT.2.1
    have hO2 : isO E (psh E S1 (13 + 0) 16) o 12 := hO.ext (P := fun _ => True) Ext.pu
    refine V_aload_n (pc := 63) dX12_init_63 rfl ?_
    refine V_bipush (pc := 64) (v := nI 16) dX12_init_64 (by decide) ?_
    refine V_newarray (pc := 66) (t := 0) dX12_init_66 (by decide) acI (by first | decide | omega) (by assumption) (by first | decide | omega) (by first | decide | omega) ?_
    refine V_putR (pc := 68) 12 10 dX12_init_68 flX12_32 (by decide) (by decide) (Or.inr ⟨rfl, rfl, rfl⟩) rfl rfl (by assumption) ?_
    exact s8 _ (hT2.st (k := 10) (t := 0) (n := 16) ho1 rfl (by decide))
  have s6 : ∀ S1, CA E S o tb12 6 S1 I L → V E kX12_init (rmOf 1 35 24479) (QM E (P112 E S I L o) 35 24479) 6 17923 S1 I L 54 [(0, .ref o)] [] := by
    intro S1 hT
    have hT2 : CA E S o tb12 6 S1 I L := hT
    have hf := hT2.2.2.1.fr
    have hO : isO E S1 o 12 := ho.ext hT.2.1
    have hO2 : isO E (psh E S1 (13 + 0) 1200) o 12 := hO.ext (P := fun _ => True) Ext.pu
    refine V_aload_n (pc := 54) dX12_init_54 rfl ?_
    refine V_sipush (pc := 55) (v := nI 1200) dX12_init_55 (by decide) ?_
    refine V_newarray (pc := 58) (t := 0) dX12_init_58 (by decide) acI (by first | decide | omega) (by assumption) (by first | decide | omega) (by first | decide | omega) ?_
    refine V_putR (pc := 60) 12 9 dX12_init_60 flX12_29 (by decide) (by decide) (Or.inr ⟨rfl, rfl, rfl⟩) rfl rfl (by assumption) ?_
    exact s7 _ (hT2.st (k := 9) (t := 0) (n := 1200) ho1 rfl (by decide))
  have s5 : ∀ S1, CA E S o tb12 5 S1 I L → V E kX12_init (rmOf 1 35 24479) (QM E (P112 E S I L o) 35 24479) 5 17907 S1 I L 46 [(0, .ref o)] [] := by
    intro S1 hT
    have hT2 : CA E S o tb12 5 S1 I L := hT
    have hf := hT2.2.2.1.fr
    have hO : isO E S1 o 12 := ho.ext hT.2.1
    have hO2 : isO E (psh E S1 (13 + 0) 16) o 12 := hO.ext (P := fun _ => True) Ext.pu
    refine V_aload_n (pc := 46) dX12_init_46 rfl ?_
    refine V_bipush (pc := 47) (v := nI 16) dX12_init_47 (by decide) ?_
    refine V_newarray (pc := 49) (t := 0) dX12_init_49 (by decide) acI (by first | decide | omega) (by assumption) (by first | decide | omega) (by first | decide | omega) ?_
    refine V_putR (pc := 51) 12 7 dX12_init_51 flX12_26 (by decide) (by decide) (Or.inr ⟨rfl, rfl, rfl⟩) rfl rfl (by assumption) ?_
    exact s6 _ (hT2.st (k := 7) (t := 0) (n := 16) ho1 rfl (by decide))
  have s4 : ∀ S1, CA E S o tb12 4 S1 I L → V E kX12_init (rmOf 1 35 24479) (QM E (P112 E S I L o) 35 24479) 4 16557 S1 I L 37 [(0, .ref o)] [] := by
    intro S1 hT
    have hT2 : CA E S o tb12 4 S1 I L := hT
    have hf := hT2.2.2.1.fr
    have hO : isO E S1 o 12 := ho.ext hT.2.1
    have hO2 : isO E (psh E S1 (13 + 0) 1350) o 12 := hO.ext (P := fun _ => True) Ext.pu
    refine V_aload_n (pc := 37) dX12_init_37 rfl ?_
    refine V_sipush (pc := 38) (v := nI 1350) dX12_init_38 (by decide) ?_
    refine V_newarray (pc := 41) (t := 0) dX12_init_41 (by decide) acI (by first | decide | omega) (by assumption) (by first | decide | omega) (by first | decide | omega) ?_
    refine V_putR (pc := 43) 12 6 dX12_init_43 flX12_23 (by decide) (by decide) (Or.inr ⟨rfl, rfl, rfl⟩) rfl rfl (by assumption) ?_
    exact s5 _ (hT2.st (k := 6) (t := 0) (n := 1350) ho1 rfl (by decide))
  have s3 : ∀ S1, CA E S o tb12 3 S1 I L → V E kX12_init (rmOf 1 35 24479) (QM E (P112 E S I L o) 35 24479) 3 16555 S1 I L 30 [(0, .ref o)] [] := by
    intro S1 hT
    have hT2 : CA E S o tb12 3 S1 I L := hT
    have hf := hT2.2.2.1.fr
    have hO : isO E S1 o 12 := ho.ext hT.2.1
    have hO2 : isO E (psh E S1 (13 + 2) 2) o 12 := hO.ext (P := fun _ => True) Ext.pu
    refine V_aload_n (pc := 30) dX12_init_30 rfl ?_
    refine V_iconst (pc := 31) (v := nI 2) dX12_init_31 (by decide) ?_
    refine V_newarray (pc := 32) (t := 2) dX12_init_32 (by decide) acZ (by first | decide | omega) (by assumption) (by first | decide | omega) (by first | decide | omega) ?_
    refine V_putR (pc := 34) 12 5 dX12_init_34 flX12_19 (by decide) (by decide) (Or.inr ⟨rfl, rfl, rfl⟩) rfl rfl (by assumption) ?_
    exact s4 _ (hT2.st (k := 5) (t := 2) (n := 2) ho1 rfl (by decide))
  have s2 : ∀ S1, CA E S o tb12 2 S1 I L → V E kX12_init (rmOf 1 35 24479) (QM E (P112 E S I L o) 35 24479) 2 5523 S1 I L 21 [(0, .ref o)] [] := by
    intro S1 hT
    have hT2 : CA E S o tb12 2 S1 I L := hT
    have hf := hT2.2.2.1.fr
    have hO : isO E S1 o 12 := ho.ext hT.2.1
    have hO2 : isO E (psh E S1 (13 + 0) 11032) o 12 := hO.ext (P := fun _ => True) Ext.pu
    refine V_aload_n (pc := 21) dX12_init_21 rfl ?_
    refine V_sipush (pc := 22) (v := nI 11032) dX12_init_22 (by decide) ?_
    refine V_newarray (pc := 25) (t := 0) dX12_init_25 (by decide) acI (by first | decide | omega) (by assumption) (by first | decide | omega) (by first | decide | omega) ?_
    refine V_putR (pc := 27) 12 4 dX12_init_27 flX12_16 (by decide) (by decide) (Or.inr ⟨rfl, rfl, rfl⟩) rfl rfl (by assumption) ?_
    exact s3 _ (hT2.st (k := 4) (t := 0) (n := 11032) ho1 rfl (by decide))
  have s1 : ∀ S1, CA E S o tb12 1 S1 I L → V E kX12_init (rmOf 1 35 24479) (QM E (P112 E S I L o) 35 24479) 1 7 S1 I L 12 [(0, .ref o)] [] := by
    intro S1 hT
    have hT2 : CA E S o tb12 1 S1 I L := hT
    have hf := hT2.2.2.1.fr
    have hO : isO E S1 o 12 := ho.ext hT.2.1
    have hO2 : isO E (psh E S1 (13 + 0) 5516) o 12 := hO.ext (P := fun _ => True) Ext.pu
    refine V_aload_n (pc := 12) dX12_init_12 rfl ?_
    refine V_sipush (pc := 13) (v := nI 5516) dX12_init_13 (by decide) ?_
    refine V_newarray (pc := 16) (t := 0) dX12_init_16 (by decide) acI (by first | decide | omega) (by assumption) (by first | decide | omega) (by first | decide | omega) ?_
    refine V_putR (pc := 18) 12 3 dX12_init_18 flX12_13 (by decide) (by decide) (Or.inr ⟨rfl, rfl, rfl⟩) rfl rfl (by assumption) ?_
    exact s2 _ (hT2.st (k := 3) (t := 0) (n := 5516) ho1 rfl (by decide))
  have s0 : ∀ S1, CA E S o tb12 0 S1 I L → V E kX12_init (rmOf 1 35 24479) (QM E (P112 E S I L o) 35 24479) 0 0 S1 I L 0 [(0, .ref o)] [] := by
    intro S1 hT
    have hT2 : CA E S o tb12 0 S1 I L := hT
    have hf := hT2.2.2.1.fr
    have hO : isO E S1 o 12 := ho.ext hT.2.1
    have hO2 : isO E (psh E S1 (13 + 0) 7) o 12 := hO.ext (P := fun _ => True) Ext.pu
    refine V_aload_n (pc := 0) dX12_init_0 rfl ?_
    refine V_objInit (pc := 1) dX12_init_1 mlX12_1 imO coO (Nat.le_of_ble_eq_true rfl) (Nat.le_of_ble_eq_true rfl) ?_
    refine V_aload_n (pc := 4) dX12_init_4 rfl ?_
    refine V_bipush (pc := 5) (v := nI 7) dX12_init_5 (by decide) ?_
    refine V_newarray (pc := 7) (t := 0) dX12_init_7 (by decide) acI (by first | decide | omega) (by assumption) (by first | decide | omega) (by first | decide | omega) ?_
    refine V_putR (pc := 9) 12 2 dX12_init_9 flX12_7 (by decide) (by decide) (Or.inr ⟨rfl, rfl, rfl⟩) rfl rfl (by assumption) ?_
    exact s1 _ (hT2.st (k := 2) (t := 0) (n := 7) ho1 rfl (by decide))
  exact s0 S ⟨rfl, Ext.rf, hB, fun j hj => absurd hj (Nat.not_lt_zero j)⟩
end IA
