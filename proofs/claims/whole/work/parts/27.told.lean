/-! THE REFERENCE: tells, lasts, loses, likes, barred -/
section MG
variable {E : EnT} {S : ST} {I : IT} {L : LT} {o : Nat} {q : Nat → Nat}
theorem set9 {L : LT} {a : Nat} {w : WT} {x1 x2 x3 x4 x5 x6 x7 x8 x9 : Int64} (h1 : x1 = i64 (w 0)) (h2 : x2 = i64 (w 1)) (h3 : x3 = i64 (w 2)) (h4 : x4 = i64 (w 3)) (h5 : x5 = i64 (w 4)) (h6 : x6 = i64 (w 5)) (h7 : x7 = i64 (w 6)) (h8 : x8 = i64 (w 7)) (h9 : x9 = i64 (w 8)) : ∀ j, 0 < j → j < 10 → up2 (up2 (up2 (up2 (up2 (up2 (up2 (up2 (up2 L a 1 x1) a 2 x2) a 3 x3) a 4 x4) a 5 x5) a 6 x6) a 7 x7) a 8 x8) a 9 x9 a j = i64 (w (j - 1)) := by
  intro j h0 hj
  have : j = 1 ∨ j = 2 ∨ j = 3 ∨ j = 4 ∨ j = 5 ∨ j = 6 ∨ j = 7 ∨ j = 8 ∨ j = 9 := by omega
  rcases this with rfl | rfl | rfl | rfl | rfl | rfl | rfl | rfl | rfl <;> simp [up2, *]
theorem set9T {o : Nat} {L : LT} {x1 x2 x3 x4 x5 x6 x7 x8 x9 : Int64} : TsL o (up2 (up2 (up2 (up2 (up2 (up2 (up2 (up2 (up2 L (o + 18) 1 x1) (o + 18) 2 x2) (o + 18) 3 x3) (o + 18) 4 x4) (o + 18) 5 x5) (o + 18) 6 x6) (o + 18) 7 x7) (o + 18) 8 x8) (o + 18) 9 x9) L := TsL.rf.up18.up18.up18.up18.up18.up18.up18.up18.up18
theorem c_X12_tells (h12 : Lay12 E S o) (hr : RowM I (o + 2) q) (hq : wq q) {law : LawT} (hlaw : LawIn I o q law) (hord : I o 20 = nI 0) {hd b sp : Nat} {wo : Int64} (hhd : hd < 4) (hb : b < 6) (hsp : sp ≤ 6) :
    C E kX12_tells 5 0 0 [.ref o, .int (nI hd), .int (nI b), .int (pred1 sp), .long wo] S I L (fun r S' I' L' => r = some (.long (tolL law hd (wdq q b sp) wo law.1)) ∧ S = S' ∧ TsI o I' I ∧ TsL o L' L) := by
  have hnl := hq.nl
  have hfo := hq.fo
  have hbr := hq.br b hb
  have hm1 : (-1 : Int64) = i64 (-1) := by decide
  have x1 := hq.sp b hb
  have x2 := nts_le q b
  have x3 := pop8_le (q (56 + b))
  have x4 := hq.ye
  have x5 := hq.mo
  have x6 := fun s => erq_le q b s
  refine C_of (by decide) (Nat.le_of_ble_eq_true rfl) ?_
  by_cases hf : q 4 = 0
  · have h5 : I (o + 2) 4 = -1 := by rw [hr.f, hf, pred1_0]
    refine V_aload_n (pc := 0) dX12_tells_0 rfl ?_
    refine V_getR (pc := 1) 12 3 dX12_tells_1 flX12_13 (by decide) h12.o h12.R3 ?_
    refine V_iconst (pc := 4) (v := nI 4) dX12_tells_4 (by decide) ?_
    refine V_ialoadE (pc := 5) dX12_tells_5 h12.A3 (by first | decide | omega) (by omega) (h5) ?_
    refine V_iconst (pc := 6) (v := (-1)) dX12_tells_6 (by decide) ?_
    refine V_icmp_ne (pc := 7) (tgt := 13) dX12_tells_7 (by decide) (fun c7 => absurd c7 (by exact fun z => c7 rfl)) (fun n7 => ?_)
    refine V_lload (pc := 10) dX12_tells_10 rfl ?_
    refine V_lret (pc := 12) dX12_tells_12 rfl (by first | decide | omega) (by first | decide | omega) ?_
    exact ⟨by rw [tolL, hlaw.1 hf]; rfl, rfl, TsI.rf, TsL.rf⟩
  · obtain ⟨l, hl⟩ : ∃ l, q 4 = l + 1 := ⟨q 4 - 1, by omega⟩
    have h5 : I (o + 2) 4 = nI l := by rw [hr.f, hl, pred1_s]
    have hM := hlaw.2 hf
    rw [hl, Nat.add_sub_cancel] at hM
    have hr1 : RowM (up2 I o 34 (nI (116 + 900 * l))) (o + 2) q := hr.cg (up2_row (by omega))
    have hM1 : LawM (up2 I o 34 (nI (116 + 900 * l)) (o + 2)) (116 + 900 * l) law := by rw [up2_row (by omega)]; exact hM
    have ho1 : up2 I o 34 (nI (116 + 900 * l)) o 20 = nI 0 := by rw [up2_nej (by omega)]; exact hord
    have hT : TsI o (up2 I o 34 (nI (116 + 900 * l))) I := TsI.up34
    cases sp with
    | zero =>
      rw [pred1_0]
      refine V_aload_n (pc := 0) dX12_tells_0 rfl ?_
      refine V_getR (pc := 1) 12 3 dX12_tells_1 flX12_13 (by decide) h12.o h12.R3 ?_
      refine V_iconst (pc := 4) (v := nI 4) dX12_tells_4 (by decide) ?_
      refine V_ialoadE (pc := 5) dX12_tells_5 h12.A3 (by first | decide | omega) (by omega) (h5) ?_
      refine V_iconst (pc := 6) (v := (-1)) dX12_tells_6 (by decide) ?_
      refine V_icmp_ne (pc := 7) (tgt := 13) dX12_tells_7 (by decide) (fun c7 => ?_) (fun n7 => absurd n7 (by exact nI_m1 (by omega)))
      refine V_aload_n (pc := 13) dX12_tells_13 rfl ?_
      refine V_bipush (pc := 14) (v := nI 116) dX12_tells_14 (by decide) ?_
      refine V_sipush (pc := 16) (v := nI 900) dX12_tells_16 (by decide) ?_
      refine V_aload_n (pc := 19) dX12_tells_19 rfl ?_
      refine V_getR (pc := 20) 12 3 dX12_tells_20 flX12_13 (by decide) h12.o h12.R3 ?_
      refine V_iconst (pc := 23) (v := nI 4) dX12_tells_23 (by decide) ?_
      refine V_ialoadE (pc := 24) dX12_tells_24 h12.A3 (by first | decide | omega) (by omega) (h5) ?_
      refine V_imulN (pc := 25) dX12_tells_25 ?_
      refine V_iaddN (pc := 26) dX12_tells_26 ?_
      refine V_putI (pc := 27) 12 34 dX12_tells_27 flX12_427 (by decide) (by decide) (Or.inl rfl) rfl rfl h12.o ?_
      refine V_aload_n (pc := 30) dX12_tells_30 rfl ?_
      refine V_getR (pc := 31) 12 35 dX12_tells_31 flX12_101 (by decide) h12.o h12.R35 ?_
      refine V_iconst (pc := 34) (v := nI 1) dX12_tells_34 (by decide) ?_
      refine V_iload_n (pc := 35) dX12_tells_35 rfl ?_
      refine V_i2lN (pc := 36) dX12_tells_36 (by omega) ?_
      refine V_lastore (pc := 37) dX12_tells_37 h12.A35 (by first | decide | omega) (by omega) ?_
      refine V_aload_n (pc := 38) dX12_tells_38 rfl ?_
      refine V_getR (pc := 39) 12 35 dX12_tells_39 flX12_101 (by decide) h12.o h12.R35 ?_
      refine V_iconst (pc := 42) (v := nI 2) dX12_tells_42 (by decide) ?_
      refine V_aload_n (pc := 43) dX12_tells_43 rfl ?_
      refine V_getR (pc := 44) 12 3 dX12_tells_44 flX12_13 (by decide) h12.o h12.R3 ?_
      refine V_bipush (pc := 47) (v := nI 62) dX12_tells_47 (by decide) ?_
      refine V_iload_n (pc := 49) dX12_tells_49 rfl ?_
      refine V_iaddN (pc := 50) dX12_tells_50 ?_
      refine V_ialoadE (pc := 51) dX12_tells_51 h12.A3 (by first | decide | omega) (by omega) (hr1.n (by omega)) ?_
      refine V_i2lN (pc := 52) dX12_tells_52 (by omega) ?_
      refine V_lastore (pc := 53) dX12_tells_53 h12.A35 (by first | decide | omega) (by omega) ?_
      refine V_aload_n (pc := 54) dX12_tells_54 rfl ?_
      refine V_getR (pc := 55) 12 35 dX12_tells_55 flX12_101 (by decide) h12.o h12.R35 ?_
      refine V_iconst (pc := 58) (v := nI 3) dX12_tells_58 (by decide) ?_
      refine V_aload_n (pc := 59) dX12_tells_59 rfl ?_
      refine V_iload_n (pc := 60) dX12_tells_60 rfl ?_
      refine V_callVd (pc := 61) (ci := 12) (c_X12_notesOf (by first | assumption | omega | exact h12) (by first | assumption | omega | exact h12) (by first | assumption | omega | exact h12) (by first | assumption | omega | exact h12)) dX12_tells_61 mlX12_219 mkX12_notesOf rfl rfl h12.o ⟨by decide, rfl⟩ ⟨Nat.le_of_ble_eq_true rfl, Nat.le_of_ble_eq_true rfl⟩ (Nat.le_of_ble_eq_true rfl) ⟨Nat.le_of_ble_eq_true rfl, Nat.le_of_ble_eq_true rfl⟩ ?_
      refine V_i2lN (pc := 64) dX12_tells_64 (by omega) ?_
      refine V_lastore (pc := 65) dX12_tells_65 h12.A35 (by first | decide | omega) (by omega) ?_
      refine V_aload_n (pc := 66) dX12_tells_66 rfl ?_
      refine V_getR (pc := 67) 12 35 dX12_tells_67 flX12_101 (by decide) h12.o h12.R35 ?_
      refine V_iconst (pc := 70) (v := nI 4) dX12_tells_70 (by decide) ?_
      refine V_aload_n (pc := 71) dX12_tells_71 rfl ?_
      refine V_getR (pc := 72) 12 3 dX12_tells_72 flX12_13 (by decide) h12.o h12.R3 ?_
      refine V_bipush (pc := 75) (v := nI 56) dX12_tells_75 (by decide) ?_
      refine V_iload_n (pc := 77) dX12_tells_77 rfl ?_
      refine V_iaddN (pc := 78) dX12_tells_78 ?_
      refine V_ialoadE (pc := 79) dX12_tells_79 h12.A3 (by first | decide | omega) (by omega) (hr1.n (by omega)) ?_
      refine V_callSd (pc := 80) (c_X12_ones (by first | assumption | omega)) dX12_tells_80 mlX12_208 mkX12_ones rfl rfl ⟨Nat.le_of_ble_eq_true rfl, Nat.le_of_ble_eq_true rfl⟩ (Nat.le_of_ble_eq_true rfl) ⟨Nat.le_of_ble_eq_true rfl, Nat.le_of_ble_eq_true rfl⟩ ?_
      refine V_i2lN (pc := 83) dX12_tells_83 (by omega) ?_
      refine V_lastore (pc := 84) dX12_tells_84 h12.A35 (by first | decide | omega) (by omega) ?_
      refine V_aload_n (pc := 85) dX12_tells_85 rfl ?_
      refine V_getR (pc := 86) 12 35 dX12_tells_86 flX12_101 (by decide) h12.o h12.R35 ?_
      refine V_iconst (pc := 89) (v := nI 5) dX12_tells_89 (by decide) ?_
      refine V_iload_n (pc := 90) dX12_tells_90 rfl ?_
      refine V_i2l (pc := 91) dX12_tells_91 rfl ?_
      refine V_lastore (pc := 92) dX12_tells_92 h12.A35 (by first | decide | omega) (by omega) ?_
      refine V_aload_n (pc := 93) dX12_tells_93 rfl ?_
      refine V_getR (pc := 94) 12 35 dX12_tells_94 flX12_101 (by decide) h12.o h12.R35 ?_
      refine V_bipush (pc := 97) (v := nI 6) dX12_tells_97 (by decide) ?_
      refine V_iload_n (pc := 99) dX12_tells_99 rfl ?_
      refine V_iconst (pc := 100) (v := (-1)) dX12_tells_100 (by decide) ?_
      refine V_icmp_ne (pc := 101) (tgt := 110) dX12_tells_101 (by decide) (fun c101 => absurd c101 (by exact fun z => c101 rfl)) (fun n101 => ?_)
      refine V_ldc2 (pc := 104) dX12_tells_104 coX12_302 ?_
      refine V_goto (pc := 107) (tgt := 117) dX12_tells_107 (by decide) ?_
      refine V_lastore (pc := 117) dX12_tells_117 h12.A35 (by first | decide | omega) (by omega) ?_
      refine V_aload_n (pc := 118) dX12_tells_118 rfl ?_
      refine V_getR (pc := 119) 12 35 dX12_tells_119 flX12_101 (by decide) h12.o h12.R35 ?_
      refine V_bipush (pc := 122) (v := nI 7) dX12_tells_122 (by decide) ?_
      refine V_iload_n (pc := 124) dX12_tells_124 rfl ?_
      refine V_iconst (pc := 125) (v := (-1)) dX12_tells_125 (by decide) ?_
      refine V_icmp_ne (pc := 126) (tgt := 135) dX12_tells_126 (by decide) (fun c126 => absurd c126 (by exact fun z => c126 rfl)) (fun n126 => ?_)
      refine V_ldc2 (pc := 129) dX12_tells_129 coX12_302 ?_
      refine V_goto (pc := 132) (tgt := 145) dX12_tells_132 (by decide) ?_
      refine V_lastore (pc := 145) dX12_tells_145 h12.A35 (by first | decide | omega) (by omega) ?_
      refine V_aload_n (pc := 146) dX12_tells_146 rfl ?_
      refine V_getR (pc := 147) 12 35 dX12_tells_147 flX12_101 (by decide) h12.o h12.R35 ?_
      refine V_bipush (pc := 150) (v := nI 8) dX12_tells_150 (by decide) ?_
      refine V_aload_n (pc := 152) dX12_tells_152 rfl ?_
      refine V_getR (pc := 153) 12 3 dX12_tells_153 flX12_13 (by decide) h12.o h12.R3 ?_
      refine V_iconst (pc := 156) (v := nI 5) dX12_tells_156 (by decide) ?_
      refine V_ialoadE (pc := 157) dX12_tells_157 h12.A3 (by first | decide | omega) (by omega) (hr1.n (by omega)) ?_
      refine V_i2lN (pc := 158) dX12_tells_158 (by omega) ?_
      refine V_lastore (pc := 159) dX12_tells_159 h12.A35 (by first | decide | omega) (by omega) ?_
      refine V_aload_n (pc := 160) dX12_tells_160 rfl ?_
      refine V_getR (pc := 161) 12 35 dX12_tells_161 flX12_101 (by decide) h12.o h12.R35 ?_
      refine V_bipush (pc := 164) (v := nI 9) dX12_tells_164 (by decide) ?_
      refine V_aload_n (pc := 166) dX12_tells_166 rfl ?_
      refine V_getR (pc := 167) 12 3 dX12_tells_167 flX12_13 (by decide) h12.o h12.R3 ?_
      refine V_bipush (pc := 170) (v := nI 7) dX12_tells_170 (by decide) ?_
      refine V_ialoadE (pc := 172) dX12_tells_172 h12.A3 (by first | decide | omega) (by omega) (hr1.n (by omega)) ?_
      refine V_i2lN (pc := 173) dX12_tells_173 (by omega) ?_
      refine V_lastore (pc := 174) dX12_tells_174 h12.A35 (by first | decide | omega) (by omega) ?_
      refine V_lload (pc := 175) dX12_tells_175 rfl ?_
      refine V_lstore (pc := 177) (ls' := [(0, _), (1, _), (2, _), (3, _), (4, _), (6, _)]) dX12_tells_177 (by decide) rfl ?_
      refine V_iconst (pc := 179) (v := nI 0) dX12_tells_179 (by decide) ?_
      refine V_istore (pc := 180) (ls' := [(0, _), (1, _), (2, _), (3, _), (4, _), (6, _), (8, _)]) dX12_tells_180 (by decide) rfl ?_
      refine lp_tells h12 hr1 ho1 up2_self (by omega) hM1 hhd (wdq_ok hq hb hsp) (set9 ?_ ?_ ?_ ?_ ?_ ?_ ?_ ?_ ?_) hT set9T
      · exact i64_lN _
      · exact i64_lN _
      · exact i64_lN _
      · exact i64_lN _
      · exact hm1
      · exact hm1
      · exact hm1
      · exact i64_lN _
      · exact i64_lN _
    | succ s =>
      have hs : s < 6 := by omega
      have hws := hq.wa s hs
      have x7 := x6 s
      rw [pred1_s]
      have he : ((s + 1 : Nat) : Int) - 1 = (s : Int) := by omega
      refine V_aload_n (pc := 0) dX12_tells_0 rfl ?_
      refine V_getR (pc := 1) 12 3 dX12_tells_1 flX12_13 (by decide) h12.o h12.R3 ?_
      refine V_iconst (pc := 4) (v := nI 4) dX12_tells_4 (by decide) ?_
      refine V_ialoadE (pc := 5) dX12_tells_5 h12.A3 (by first | decide | omega) (by omega) (h5) ?_
      refine V_iconst (pc := 6) (v := (-1)) dX12_tells_6 (by decide) ?_
      refine V_icmp_ne (pc := 7) (tgt := 13) dX12_tells_7 (by decide) (fun c7 => ?_) (fun n7 => absurd n7 (by exact nI_m1 (by omega)))
      refine V_aload_n (pc := 13) dX12_tells_13 rfl ?_
      refine V_bipush (pc := 14) (v := nI 116) dX12_tells_14 (by decide) ?_
      refine V_sipush (pc := 16) (v := nI 900) dX12_tells_16 (by decide) ?_
      refine V_aload_n (pc := 19) dX12_tells_19 rfl ?_
      refine V_getR (pc := 20) 12 3 dX12_tells_20 flX12_13 (by decide) h12.o h12.R3 ?_
      refine V_iconst (pc := 23) (v := nI 4) dX12_tells_23 (by decide) ?_
      refine V_ialoadE (pc := 24) dX12_tells_24 h12.A3 (by first | decide | omega) (by omega) (h5) ?_
      refine V_imulN (pc := 25) dX12_tells_25 ?_
      refine V_iaddN (pc := 26) dX12_tells_26 ?_
      refine V_putI (pc := 27) 12 34 dX12_tells_27 flX12_427 (by decide) (by decide) (Or.inl rfl) rfl rfl h12.o ?_
      refine V_aload_n (pc := 30) dX12_tells_30 rfl ?_
      refine V_getR (pc := 31) 12 35 dX12_tells_31 flX12_101 (by decide) h12.o h12.R35 ?_
      refine V_iconst (pc := 34) (v := nI 1) dX12_tells_34 (by decide) ?_
      refine V_iload_n (pc := 35) dX12_tells_35 rfl ?_
      refine V_i2lN (pc := 36) dX12_tells_36 (by omega) ?_
      refine V_lastore (pc := 37) dX12_tells_37 h12.A35 (by first | decide | omega) (by omega) ?_
      refine V_aload_n (pc := 38) dX12_tells_38 rfl ?_
      refine V_getR (pc := 39) 12 35 dX12_tells_39 flX12_101 (by decide) h12.o h12.R35 ?_
      refine V_iconst (pc := 42) (v := nI 2) dX12_tells_42 (by decide) ?_
      refine V_aload_n (pc := 43) dX12_tells_43 rfl ?_
      refine V_getR (pc := 44) 12 3 dX12_tells_44 flX12_13 (by decide) h12.o h12.R3 ?_
      refine V_bipush (pc := 47) (v := nI 62) dX12_tells_47 (by decide) ?_
      refine V_iload_n (pc := 49) dX12_tells_49 rfl ?_
      refine V_iaddN (pc := 50) dX12_tells_50 ?_
      refine V_ialoadE (pc := 51) dX12_tells_51 h12.A3 (by first | decide | omega) (by omega) (hr1.n (by omega)) ?_
      refine V_i2lN (pc := 52) dX12_tells_52 (by omega) ?_
      refine V_lastore (pc := 53) dX12_tells_53 h12.A35 (by first | decide | omega) (by omega) ?_
      refine V_aload_n (pc := 54) dX12_tells_54 rfl ?_
      refine V_getR (pc := 55) 12 35 dX12_tells_55 flX12_101 (by decide) h12.o h12.R35 ?_
      refine V_iconst (pc := 58) (v := nI 3) dX12_tells_58 (by decide) ?_
      refine V_aload_n (pc := 59) dX12_tells_59 rfl ?_
      refine V_iload_n (pc := 60) dX12_tells_60 rfl ?_
      refine V_callVd (pc := 61) (ci := 12) (c_X12_notesOf (by first | assumption | omega | exact h12) (by first | assumption | omega | exact h12) (by first | assumption | omega | exact h12) (by first | assumption | omega | exact h12)) dX12_tells_61 mlX12_219 mkX12_notesOf rfl rfl h12.o ⟨by decide, rfl⟩ ⟨Nat.le_of_ble_eq_true rfl, Nat.le_of_ble_eq_true rfl⟩ (Nat.le_of_ble_eq_true rfl) ⟨Nat.le_of_ble_eq_true rfl, Nat.le_of_ble_eq_true rfl⟩ ?_
      refine V_i2lN (pc := 64) dX12_tells_64 (by omega) ?_
      refine V_lastore (pc := 65) dX12_tells_65 h12.A35 (by first | decide | omega) (by omega) ?_
      refine V_aload_n (pc := 66) dX12_tells_66 rfl ?_
      refine V_getR (pc := 67) 12 35 dX12_tells_67 flX12_101 (by decide) h12.o h12.R35 ?_
      refine V_iconst (pc := 70) (v := nI 4) dX12_tells_70 (by decide) ?_
      refine V_aload_n (pc := 71) dX12_tells_71 rfl ?_
      refine V_getR (pc := 72) 12 3 dX12_tells_72 flX12_13 (by decide) h12.o h12.R3 ?_
      refine V_bipush (pc := 75) (v := nI 56) dX12_tells_75 (by decide) ?_
      refine V_iload_n (pc := 77) dX12_tells_77 rfl ?_
      refine V_iaddN (pc := 78) dX12_tells_78 ?_
      refine V_ialoadE (pc := 79) dX12_tells_79 h12.A3 (by first | decide | omega) (by omega) (hr1.n (by omega)) ?_
      refine V_callSd (pc := 80) (c_X12_ones (by first | assumption | omega)) dX12_tells_80 mlX12_208 mkX12_ones rfl rfl ⟨Nat.le_of_ble_eq_true rfl, Nat.le_of_ble_eq_true rfl⟩ (Nat.le_of_ble_eq_true rfl) ⟨Nat.le_of_ble_eq_true rfl, Nat.le_of_ble_eq_true rfl⟩ ?_
      refine V_i2lN (pc := 83) dX12_tells_83 (by omega) ?_
      refine V_lastore (pc := 84) dX12_tells_84 h12.A35 (by first | decide | omega) (by omega) ?_
      refine V_aload_n (pc := 85) dX12_tells_85 rfl ?_
      refine V_getR (pc := 86) 12 35 dX12_tells_86 flX12_101 (by decide) h12.o h12.R35 ?_
      refine V_iconst (pc := 89) (v := nI 5) dX12_tells_89 (by decide) ?_
      refine V_iload_n (pc := 90) dX12_tells_90 rfl ?_
      refine V_i2lN (pc := 91) dX12_tells_91 (by omega) ?_
      refine V_lastore (pc := 92) dX12_tells_92 h12.A35 (by first | decide | omega) (by omega) ?_
      refine V_aload_n (pc := 93) dX12_tells_93 rfl ?_
      refine V_getR (pc := 94) 12 35 dX12_tells_94 flX12_101 (by decide) h12.o h12.R35 ?_
      refine V_bipush (pc := 97) (v := nI 6) dX12_tells_97 (by decide) ?_
      refine V_iload_n (pc := 99) dX12_tells_99 rfl ?_
      refine V_iconst (pc := 100) (v := (-1)) dX12_tells_100 (by decide) ?_
      refine V_icmp_ne (pc := 101) (tgt := 110) dX12_tells_101 (by decide) (fun c101 => ?_) (fun n101 => absurd n101 (by exact nI_m1 (by omega)))
      refine V_aload_n (pc := 110) dX12_tells_110 rfl ?_
      refine V_iload_n (pc := 111) dX12_tells_111 rfl ?_
      refine V_iload_n (pc := 112) dX12_tells_112 rfl ?_
      refine V_callVd (pc := 113) (ci := 12) (c_X12_earOf (by first | assumption | omega | exact h12) (by first | assumption | omega | exact h12) (by first | assumption | omega | exact h12) (by first | assumption | omega | exact h12) (by first | assumption | omega | exact h12)) dX12_tells_113 mlX12_247 mkX12_earOf rfl rfl h12.o ⟨by decide, rfl⟩ ⟨Nat.le_of_ble_eq_true rfl, Nat.le_of_ble_eq_true rfl⟩ (Nat.le_of_ble_eq_true rfl) ⟨Nat.le_of_ble_eq_true rfl, Nat.le_of_ble_eq_true rfl⟩ ?_
      refine V_i2lN (pc := 116) dX12_tells_116 (by omega) ?_
      refine V_lastore (pc := 117) dX12_tells_117 h12.A35 (by first | decide | omega) (by omega) ?_
      refine V_aload_n (pc := 118) dX12_tells_118 rfl ?_
      refine V_getR (pc := 119) 12 35 dX12_tells_119 flX12_101 (by decide) h12.o h12.R35 ?_
      refine V_bipush (pc := 122) (v := nI 7) dX12_tells_122 (by decide) ?_
      refine V_iload_n (pc := 124) dX12_tells_124 rfl ?_
      refine V_iconst (pc := 125) (v := (-1)) dX12_tells_125 (by decide) ?_
      refine V_icmp_ne (pc := 126) (tgt := 135) dX12_tells_126 (by decide) (fun c126 => ?_) (fun n126 => absurd n126 (by exact nI_m1 (by omega)))
      refine V_aload_n (pc := 135) dX12_tells_135 rfl ?_
      refine V_getR (pc := 136) 12 3 dX12_tells_136 flX12_13 (by decide) h12.o h12.R3 ?_
      refine V_bipush (pc := 139) (v := nI 86) dX12_tells_139 (by decide) ?_
      refine V_iload_n (pc := 141) dX12_tells_141 rfl ?_
      refine V_iaddN (pc := 142) dX12_tells_142 ?_
      refine V_ialoadE (pc := 143) dX12_tells_143 h12.A3 (by first | decide | omega) (by omega) (hr1.n (by omega)) ?_
      refine V_i2lN (pc := 144) dX12_tells_144 (by omega) ?_
      refine V_lastore (pc := 145) dX12_tells_145 h12.A35 (by first | decide | omega) (by omega) ?_
      refine V_aload_n (pc := 146) dX12_tells_146 rfl ?_
      refine V_getR (pc := 147) 12 35 dX12_tells_147 flX12_101 (by decide) h12.o h12.R35 ?_
      refine V_bipush (pc := 150) (v := nI 8) dX12_tells_150 (by decide) ?_
      refine V_aload_n (pc := 152) dX12_tells_152 rfl ?_
      refine V_getR (pc := 153) 12 3 dX12_tells_153 flX12_13 (by decide) h12.o h12.R3 ?_
      refine V_iconst (pc := 156) (v := nI 5) dX12_tells_156 (by decide) ?_
      refine V_ialoadE (pc := 157) dX12_tells_157 h12.A3 (by first | decide | omega) (by omega) (hr1.n (by omega)) ?_
      refine V_i2lN (pc := 158) dX12_tells_158 (by omega) ?_
      refine V_lastore (pc := 159) dX12_tells_159 h12.A35 (by first | decide | omega) (by omega) ?_
      refine V_aload_n (pc := 160) dX12_tells_160 rfl ?_
      refine V_getR (pc := 161) 12 35 dX12_tells_161 flX12_101 (by decide) h12.o h12.R35 ?_
      refine V_bipush (pc := 164) (v := nI 9) dX12_tells_164 (by decide) ?_
      refine V_aload_n (pc := 166) dX12_tells_166 rfl ?_
      refine V_getR (pc := 167) 12 3 dX12_tells_167 flX12_13 (by decide) h12.o h12.R3 ?_
      refine V_bipush (pc := 170) (v := nI 7) dX12_tells_170 (by decide) ?_
      refine V_ialoadE (pc := 172) dX12_tells_172 h12.A3 (by first | decide | omega) (by omega) (hr1.n (by omega)) ?_
      refine V_i2lN (pc := 173) dX12_tells_173 (by omega) ?_
      refine V_lastore (pc := 174) dX12_tells_174 h12.A35 (by first | decide | omega) (by omega) ?_
      refine V_lload (pc := 175) dX12_tells_175 rfl ?_
      refine V_lstore (pc := 177) (ls' := [(0, _), (1, _), (2, _), (3, _), (4, _), (6, _)]) dX12_tells_177 (by decide) rfl ?_
      refine V_iconst (pc := 179) (v := nI 0) dX12_tells_179 (by decide) ?_
      refine V_istore (pc := 180) (ls' := [(0, _), (1, _), (2, _), (3, _), (4, _), (6, _), (8, _)]) dX12_tells_180 (by decide) rfl ?_
      refine lp_tells h12 hr1 ho1 up2_self (by omega) hM1 hhd (wdq_ok hq hb hsp) (set9 ?_ ?_ ?_ ?_ ?_ ?_ ?_ ?_ ?_) hT set9T
      · exact i64_lN _
      · exact i64_lN _
      · exact i64_lN _
      · exact i64_lN _
      · rw [i64_lN]; exact congrArg i64 he.symm
      · exact i64_lN _
      · exact i64_lN _
      · exact i64_lN _
      · exact i64_lN _
theorem c_X12_tells_s (h12 : Lay12 E S o) (hr : RowM I (o + 2) q) (hq : wq q) {law : LawT} (hlaw : LawIn I o q law) (hord : I o 20 = nI 0) {hd b s : Nat} {wo : Int64} (hhd : hd < 4) (hb : b < 6) (hs : s < 6) :
    C E kX12_tells 5 0 0 [.ref o, .int (nI hd), .int (nI b), .int (nI s), .long wo] S I L (fun r S' I' L' => r = some (.long (tolL law hd (wdq q b (s + 1)) wo law.1)) ∧ S = S' ∧ TsI o I' I ∧ TsL o L' L) := by
  have h := c_X12_tells (S := S) (L := L) (sp := s + 1) (wo := wo) h12 hr hq hlaw hord hhd hb (by omega)
  rw [pred1_s] at h
  exact h
theorem c_X12_tells_0 (h12 : Lay12 E S o) (hr : RowM I (o + 2) q) (hq : wq q) {law : LawT} (hlaw : LawIn I o q law) (hord : I o 20 = nI 0) {hd b : Nat} {wo : Int64} (hhd : hd < 4) (hb : b < 6) :
    C E kX12_tells 5 0 0 [.ref o, .int (nI hd), .int (nI b), .int (-1), .long wo] S I L (fun r S' I' L' => r = some (.long (tolL law hd (wdq q b 0) wo law.1)) ∧ S = S' ∧ TsI o I' I ∧ TsL o L' L) := by
  have h := c_X12_tells (S := S) (L := L) (sp := 0) (wo := wo) h12 hr hq hlaw hord hhd hb (by omega)
  rw [pred1_0] at h
  exact h
theorem clamp_i64 {v : Int} {hi : Nat} (hv : sml v) (hh : hi < 1000) : clampI (i64 v) (nI 0) (nI hi) = nI (clampN v hi) := by
  have h1 := hv.1
  have h2 := hv.2
  unfold clampI clampN
  rw [nI_l (by omega), nI_l (by omega), i64_lN, i64_lN]
  have s0 : sml ((0 : Nat) : Int) := ⟨by omega, by omega⟩
  have sh : sml (hi : Int) := ⟨by omega, by omega⟩
  by_cases a : v < 0
  · rw [if_pos ((i64_lt hv s0).mpr (by omega)), if_pos a]
  · rw [if_neg (fun z => a (by have := (i64_lt hv s0).mp z; omega)), if_neg a]
    by_cases c : (hi : Int) < v
    · rw [if_pos ((i64_lt sh hv).mpr c), if_pos c]
    · rw [if_neg (fun z => c ((i64_lt sh hv).mp z)), if_neg c]
      have e : v = (v.toNat : Int) := by omega
      have e2 : i64 v = lN v.toNat := by rw [i64_lN]; exact congrArg i64 e
      rw [e2, lN_i]
/-- what a law of either form tells is within bounds -/
def LawS (law : LawT) : Prop := ∀ c w v, c < law.1 → wok w → law.2.2.1 c w = some v → sml v
theorem tld_sml {law : LawT} {hd : Nat} {w : WT} (h : LawS law) (hw : wok w) : ∀ n, n ≤ law.1 → ∀ v, tld law hd w n = some v → sml v
  | 0, _, v, e => by cases e
  | n + 1, hn, v, e => by
    unfold tld at e
    split at e
    · exact h n w v (by omega) hw e
    · exact tld_sml h hw n (by omega) v e
theorem tolL_i64 (law : LawT) (hd : Nat) (w : WT) (v : Int) (n : Nat) : tolL law hd w (i64 v) n = i64 ((tld law hd w n).getD v) := by
  unfold tolL
  cases tld law hd w n <;> rfl
theorem getD_sml {law : LawT} {hd : Nat} {w : WT} {v : Int} (h : LawS law) (hw : wok w) (hv : sml v) : sml ((tld law hd w law.1).getD v) := by
  cases e : tld law hd w law.1 with
  | none => exact hv
  | some x => exact tld_sml h hw law.1 (Nat.le_refl _) x e
theorem c_X12_losesOf (h12 : Lay12 E S o) (hr : RowM I (o + 2) q) (hq : wq q) {law : LawT} (hlaw : LawIn I o q law) (hls : LawS law) (hord : I o 20 = nI 0) {b : Nat} (hb : b < 6) :
    C E kX12_losesOf 6 0 0 [.ref o, .int (nI b)] S I L (fun r S' I' L' => r = some (.int (nI (lss law q b))) ∧ S = S' ∧ TsI o I' I ∧ TsL o L' L) := by
  refine C_of (by decide) (Nat.le_of_ble_eq_true rfl) ?_
  refine V_aload_n (pc := 0) dX12_losesOf_0 rfl ?_
  refine V_iconst (pc := 1) (v := nI 2) dX12_losesOf_1 (by decide) ?_
  refine V_iload_n (pc := 2) dX12_losesOf_2 rfl ?_
  refine V_iconst (pc := 3) (v := (-1)) dX12_losesOf_3 (by decide) ?_
  refine V_lconst (pc := 4) (v := lN 0) dX12_losesOf_4 (by decide) ?_
  refine V_callV (pc := 5) (ci := 12) (c_X12_tells_0 h12 hr hq hlaw hord (by omega) hb) dX12_losesOf_5 mlX12_450 mkX12_tells rfl rfl h12.o ⟨by decide, rfl⟩ ⟨Nat.le_of_ble_eq_true rfl, Nat.le_of_ble_eq_true rfl⟩ (Nat.le_of_ble_eq_true rfl) ⟨Nat.le_of_ble_eq_true rfl, Nat.le_of_ble_eq_true rfl⟩ (fun r S' I' L' hp => ?_)
  obtain ⟨rfl, rfl, hI, hL⟩ := hp
  refine V_topl (y := i64 ((tld law 2 (wdq q b 0) law.1).getD 0)) (by rw [i64_lN]; exact tolL_i64 _ _ _ _ _) ?_
  refine V_iconst (pc := 8) (v := nI 0) dX12_losesOf_8 (by decide) ?_
  refine V_bipush (pc := 9) (v := nI 9) dX12_losesOf_9 (by decide) ?_
  refine V_callSd (pc := 11) (c_X12_within) dX12_losesOf_11 mlX12_454 mkX12_within rfl rfl ⟨Nat.le_of_ble_eq_true rfl, Nat.le_of_ble_eq_true rfl⟩ (Nat.le_of_ble_eq_true rfl) ⟨Nat.le_of_ble_eq_true rfl, Nat.le_of_ble_eq_true rfl⟩ ?_
  refine V_iret (pc := 14) dX12_losesOf_14 rfl (by first | decide | omega) (by first | decide | omega) ?_
  exact ⟨by rw [clamp_i64 (getD_sml hls (wdq_ok hq hb (by omega)) ⟨by decide, by decide⟩) (by omega)]; rfl, rfl, hI, hL⟩
theorem c_X12_lastsOf (h12 : Lay12 E S o) (hr : RowM I (o + 2) q) (hq : wq q) {law : LawT} (hlaw : LawIn I o q law) (hls : LawS law) (hord : I o 20 = nI 0) {b : Nat} (hb : b < 6) :
    C E kX12_lastsOf 6 0 0 [.ref o, .int (nI b)] S I L (fun r S' I' L' => r = some (.int (nI (lst law q b))) ∧ S = S' ∧ TsI o I' I ∧ TsL o L' L) := by
  have h1 := hq.sp b hb
  have h2 := nts_le q b
  refine C_of (by decide) (Nat.le_of_ble_eq_true rfl) ?_
  refine V_aload_n (pc := 0) dX12_lastsOf_0 rfl ?_
  refine V_iconst (pc := 1) (v := nI 0) dX12_lastsOf_1 (by decide) ?_
  refine V_iload_n (pc := 2) dX12_lastsOf_2 rfl ?_
  refine V_iconst (pc := 3) (v := (-1)) dX12_lastsOf_3 (by decide) ?_
  refine V_aload_n (pc := 4) dX12_lastsOf_4 rfl ?_
  refine V_getR (pc := 5) 12 3 dX12_lastsOf_5 flX12_13 (by decide) h12.o h12.R3 ?_
  refine V_bipush (pc := 8) (v := nI 62) dX12_lastsOf_8 (by decide) ?_
  refine V_iload_n (pc := 10) dX12_lastsOf_10 rfl ?_
  refine V_iaddN (pc := 11) dX12_lastsOf_11 ?_
  refine V_ialoadE (pc := 12) dX12_lastsOf_12 h12.A3 (by first | decide | omega) (by omega) (hr.n (by omega)) ?_
  refine V_aload_n (pc := 13) dX12_lastsOf_13 rfl ?_
  refine V_iload_n (pc := 14) dX12_lastsOf_14 rfl ?_
  refine V_callVd (pc := 15) (ci := 12) (c_X12_notesOf (by first | assumption | omega | exact h12) (by first | assumption | omega | exact h12) (by first | assumption | omega | exact h12) (by first | assumption | omega | exact h12)) dX12_lastsOf_15 mlX12_219 mkX12_notesOf rfl rfl h12.o ⟨by decide, rfl⟩ ⟨Nat.le_of_ble_eq_true rfl, Nat.le_of_ble_eq_true rfl⟩ (Nat.le_of_ble_eq_true rfl) ⟨Nat.le_of_ble_eq_true rfl, Nat.le_of_ble_eq_true rfl⟩ ?_
  refine V_iconst (pc := 18) (v := nI 4) dX12_lastsOf_18 (by decide) ?_
  refine V_idivN (pc := 19) dX12_lastsOf_19 (by omega) (by omega) (by omega) ?_
  refine V_iaddN (pc := 20) dX12_lastsOf_20 ?_
  refine V_i2lN (pc := 21) dX12_lastsOf_21 (by omega) ?_
  refine V_callV (pc := 22) (ci := 12) (c_X12_tells_0 h12 hr hq hlaw hord (by omega) hb) dX12_lastsOf_22 mlX12_450 mkX12_tells rfl rfl h12.o ⟨by decide, rfl⟩ ⟨Nat.le_of_ble_eq_true rfl, Nat.le_of_ble_eq_true rfl⟩ (Nat.le_of_ble_eq_true rfl) ⟨Nat.le_of_ble_eq_true rfl, Nat.le_of_ble_eq_true rfl⟩ (fun r S' I' L' hp => ?_)
  obtain ⟨rfl, rfl, hI, hL⟩ := hp
  refine V_topl (y := i64 ((tld law 0 (wdq q b 0) law.1).getD (q (62 + b) + nts q b / 4 : Nat))) (by rw [i64_lN]; exact tolL_i64 _ _ _ _ _) ?_
  refine V_iconst (pc := 25) (v := nI 0) dX12_lastsOf_25 (by decide) ?_
  refine V_bipush (pc := 26) (v := nI 60) dX12_lastsOf_26 (by decide) ?_
  refine V_callSd (pc := 28) (c_X12_within) dX12_lastsOf_28 mlX12_454 mkX12_within rfl rfl ⟨Nat.le_of_ble_eq_true rfl, Nat.le_of_ble_eq_true rfl⟩ (Nat.le_of_ble_eq_true rfl) ⟨Nat.le_of_ble_eq_true rfl, Nat.le_of_ble_eq_true rfl⟩ ?_
  refine V_iret (pc := 31) dX12_lastsOf_31 rfl (by first | decide | omega) (by first | decide | omega) ?_
  exact ⟨by rw [clamp_i64 (getD_sml hls (wdq_ok hq hb (by omega)) ⟨by omega, by omega⟩) (by omega)]; rfl, rfl, hI, hL⟩
theorem c_X12_likesOf (h12 : Lay12 E S o) (hr : RowM I (o + 2) q) (hq : wq q) {law : LawT} (hlaw : LawIn I o q law) (hls : LawS law) (hord : I o 20 = nI 0) {b s : Nat} (hb : b < 6) (hs : s < 6) :
    C E kX12_likesOf 6 0 0 [.ref o, .int (nI b), .int (nI s)] S I L (fun r S' I' L' => r = some (.int (nI (lik law q b s))) ∧ S = S' ∧ TsI o I' I ∧ TsL o L' L) := by
  have h2 := erq_le q b s
  refine C_of (by decide) (Nat.le_of_ble_eq_true rfl) ?_
  refine V_aload_n (pc := 0) dX12_likesOf_0 rfl ?_
  refine V_iconst (pc := 1) (v := nI 1) dX12_likesOf_1 (by decide) ?_
  refine V_iload_n (pc := 2) dX12_likesOf_2 rfl ?_
  refine V_iload_n (pc := 3) dX12_likesOf_3 rfl ?_
  refine V_aload_n (pc := 4) dX12_likesOf_4 rfl ?_
  refine V_iload_n (pc := 5) dX12_likesOf_5 rfl ?_
  refine V_iload_n (pc := 6) dX12_likesOf_6 rfl ?_
  refine V_callVd (pc := 7) (ci := 12) (c_X12_earOf (by first | assumption | omega | exact h12) (by first | assumption | omega | exact h12) (by first | assumption | omega | exact h12) (by first | assumption | omega | exact h12) (by first | assumption | omega | exact h12)) dX12_likesOf_7 mlX12_247 mkX12_earOf rfl rfl h12.o ⟨by decide, rfl⟩ ⟨Nat.le_of_ble_eq_true rfl, Nat.le_of_ble_eq_true rfl⟩ (Nat.le_of_ble_eq_true rfl) ⟨Nat.le_of_ble_eq_true rfl, Nat.le_of_ble_eq_true rfl⟩ ?_
  refine V_i2lN (pc := 10) dX12_likesOf_10 (by omega) ?_
  refine V_callV (pc := 11) (ci := 12) (c_X12_tells_s h12 hr hq hlaw hord (by omega) hb hs) dX12_likesOf_11 mlX12_450 mkX12_tells rfl rfl h12.o ⟨by decide, rfl⟩ ⟨Nat.le_of_ble_eq_true rfl, Nat.le_of_ble_eq_true rfl⟩ (Nat.le_of_ble_eq_true rfl) ⟨Nat.le_of_ble_eq_true rfl, Nat.le_of_ble_eq_true rfl⟩ (fun r S' I' L' hp => ?_)
  obtain ⟨rfl, rfl, hI, hL⟩ := hp
  refine V_topl (y := i64 ((tld law 1 (wdq q b (s + 1)) law.1).getD (erq q b s : Nat))) (by rw [i64_lN]; exact tolL_i64 _ _ _ _ _) ?_
  refine V_iconst (pc := 14) (v := nI 0) dX12_likesOf_14 (by decide) ?_
  refine V_bipush (pc := 15) (v := nI 99) dX12_likesOf_15 (by decide) ?_
  refine V_callSd (pc := 17) (c_X12_within) dX12_likesOf_17 mlX12_454 mkX12_within rfl rfl ⟨Nat.le_of_ble_eq_true rfl, Nat.le_of_ble_eq_true rfl⟩ (Nat.le_of_ble_eq_true rfl) ⟨Nat.le_of_ble_eq_true rfl, Nat.le_of_ble_eq_true rfl⟩ ?_
  refine V_iret (pc := 20) dX12_likesOf_20 rfl (by first | decide | omega) (by first | decide | omega) ?_
  exact ⟨by rw [clamp_i64 (getD_sml hls (wdq_ok hq hb (by omega)) ⟨by omega, by omega⟩) (by omega)]; rfl, rfl, hI, hL⟩
theorem c_X12_isBarred (h12 : Lay12 E S o) (hr : RowM I (o + 2) q) (hq : wq q) {law : LawT} (hlaw : LawIn I o q law) (hb3 : ∀ c w, c < law.1 → wok w → law.2.1 c = 3 → law.2.2.1 c w = some 1) (hord : I o 20 = nI 0) {b s : Nat} (hb : b < 6) (hs : s < 6) :
    C E kX12_isBarred 6 0 0 [.ref o, .int (nI b), .int (nI s)] S I L (fun r S' I' L' => r = some (.int (b2i (brd law q b s))) ∧ S = S' ∧ TsI o I' I ∧ TsL o L' L) := by
  have h1 : ∀ n, n ≤ law.1 → tld law 3 (wdq q b (s + 1)) n = none ∨ tld law 3 (wdq q b (s + 1)) n = some 1 := by
    intro n
    induction n with
    | zero => intro _; exact Or.inl rfl
    | succ n ih =>
      intro hn
      unfold tld
      split
      · rename_i hz; exact Or.inr (hb3 n _ (by omega) (wdq_ok hq hb (by omega)) hz.1)
      · exact ih (by omega)
  refine C_of (by decide) (Nat.le_of_ble_eq_true rfl) ?_
  refine V_aload_n (pc := 0) dX12_isBarred_0 rfl ?_
  refine V_iconst (pc := 1) (v := nI 3) dX12_isBarred_1 (by decide) ?_
  refine V_iload_n (pc := 2) dX12_isBarred_2 rfl ?_
  refine V_iload_n (pc := 3) dX12_isBarred_3 rfl ?_
  refine V_lconst (pc := 4) (v := lN 0) dX12_isBarred_4 (by decide) ?_
  refine V_callV (pc := 5) (ci := 12) (c_X12_tells_s h12 hr hq hlaw hord (by omega) hb hs) dX12_isBarred_5 mlX12_450 mkX12_tells rfl rfl h12.o ⟨by decide, rfl⟩ ⟨Nat.le_of_ble_eq_true rfl, Nat.le_of_ble_eq_true rfl⟩ (Nat.le_of_ble_eq_true rfl) ⟨Nat.le_of_ble_eq_true rfl, Nat.le_of_ble_eq_true rfl⟩ (fun r S' I' L' hp => ?_)
  obtain ⟨rfl, rfl, hI, hL⟩ := hp
  refine V_topl (y := i64 ((tld law 3 (wdq q b (s + 1)) law.1).getD 0)) (by rw [i64_lN]; exact tolL_i64 _ _ _ _ _) ?_
  refine V_lconst (pc := 8) (v := lN 1) dX12_isBarred_8 (by decide) ?_
  refine V_lcmp (pc := 9) dX12_isBarred_9 ?_
  refine V_if_ne (pc := 10) (tgt := 17) dX12_isBarred_10 (by decide) (fun c10 => ?_) (fun n10 => ?_)
  · skip
    have hz : brd law q b s = false := by
      unfold brd
      rcases h1 law.1 (Nat.le_refl _) with h9 | h9
      · rw [h9]; rfl
      · rw [h9] at c10; exact absurd ((lg_cmp_eq _ _).mpr (by decide)) c10
    refine V_iconst (pc := 17) (v := nI 0) dX12_isBarred_17 (by decide) ?_
    refine V_zretB (pc := 18) (p := false) dX12_isBarred_18 rfl rfl (by first | decide | omega) (by first | decide | omega) ?_
    exact ⟨by rw [hz], rfl, hI, hL⟩
  · skip
    have hz : brd law q b s = true := by
      unfold brd
      rcases h1 law.1 (Nat.le_refl _) with h9 | h9
      · rw [h9] at n10; exact absurd ((lg_cmp_eq _ _).mp n10) (by decide)
      · rw [h9]; rfl
    refine V_iconst (pc := 13) (v := nI 1) dX12_isBarred_13 (by decide) ?_
    refine V_goto (pc := 14) (tgt := 18) dX12_isBarred_14 (by decide) ?_
    refine V_zretB (pc := 18) (p := true) dX12_isBarred_18 rfl rfl (by first | decide | omega) (by first | decide | omega) ?_
    exact ⟨by rw [hz], rfl, hI, hL⟩
end MG
