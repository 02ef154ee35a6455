/-! THE REFERENCE: who can be matched, how much they differ, how they like -/
def mayq (law : LawT) (q : Nat → Nat) (b s : Nat) : Bool := decide (q (68 + b) = 0) && (decide (bof q s (q 0) = 0) && !brd law q b s)
def difq (law : LawT) (q : Nat → Nat) (b s : Nat) : Nat := if lst law q b < q (86 + s) then q (86 + s) - lst law q b else lst law q b - q (86 + s)
def offI (law : LawT) (q : Nat → Nat) (b s : Nat) : Int32 := if mayq law q b s = true then nI (difq law q b s) else -1
theorem difq_le {law : LawT} {q : Nat → Nat} (hq : wq q) {b s : Nat} (hs : s < 6) : difq law q b s ≤ 60 := by
  have h1 := lst_le law q b
  have h2 := hq.wa s hs
  unfold difq
  split <;> omega
theorem sub_neg0 : ∀ b, b < 61 → ∀ a, a < 61 → a < b → nI a - nI b < 0 ∧ -(nI a - nI b) = nI (b - a) := by decide +kernel
theorem sub_neg {a b : Nat} (h : a < b) (hb : b < 61) : nI a - nI b < 0 ∧ -(nI a - nI b) = nI (b - a) := sub_neg0 b hb a (by omega) h
/-- what laying the twos leaves -/
def FrT (o : Nat) (I' I : IT) (L' L : LT) : Prop := (∀ a, a ≠ o → a ≠ o + 22 → a ≠ o + 23 → a ≠ o + 25 → I' a = I a) ∧ (∀ i, i ≠ 34 → i ≠ 38 → I' o i = I o i) ∧ TsL o L' L
section MJ
variable {E : EnT} {S : ST} {I : IT} {L : LT} {o : Nat} {A : AT}
theorem FrT.rf : FrT o I I L L := ⟨fun _ _ _ _ _ => rfl, fun _ _ _ => rfl, TsL.rf⟩
theorem FrT.tr {I2 I3 : IT} {L2 L3 : LT} (h : FrT o I3 I2 L3 L2) (g : FrT o I2 I L2 L) : FrT o I3 I L3 L := ⟨fun a a1 a2 a3 a4 => (h.1 a a1 a2 a3 a4).trans (g.1 a a1 a2 a3 a4), fun i i1 i2 => (h.2.1 i i1 i2).trans (g.2.1 i i1 i2), TsL.tr h.2.2 g.2.2⟩
theorem FrT.ts {I2 I3 : IT} {L2 L3 : LT} (g : FrT o I2 I L2 L) (hI : TsI o I3 I2) (hL : TsL o L3 L2) : FrT o I3 I L3 L := ⟨fun a a1 a2 a3 a4 => (hI.1 a a1).trans (g.1 a a1 a2 a3 a4), fun i i1 i2 => (hI.2 i i1 i2).trans (g.2.1 i i1 i2), TsL.tr hL g.2.2⟩
theorem FrT.up {I2 : IT} {L2 : LT} {a i : Nat} {v : Int32} (g : FrT o I2 I L2 L) (ha : a = o + 22 ∨ a = o + 23 ∨ a = o + 25) : FrT o (up2 I2 a i v) I L2 L := ⟨fun x a1 a2 a3 a4 => by rw [up2_row (by omega)]; exact g.1 x a1 a2 a3 a4, fun i i1 i2 => by rw [up2_ne (by omega)]; exact g.2.1 i i1 i2, g.2.2⟩
theorem FrT.mr {I2 : IT} {L2 : LT} (g : FrT o I2 I L2 L) (hM : MR o I L A) : MR o I2 L2 A := hM.dead ⟨fun a ha => g.1 a (by simp at ha; omega) (by simp at ha; omega) (by simp at ha; omega) (by simp at ha; omega), fun i hi => g.2.1 i (by simp at hi; omega) (by simp at hi; omega), fun a ha => g.2.2.1 a (by simp at ha; omega) (by simp at ha; omega) (by simp at ha; omega)⟩
theorem FrT.frm {I2 : IT} {L2 : LT} (h : FrT o I2 I L2 L) : FrM o I2 I L2 L := fun a ha => ⟨h.1 a (by omega) (by omega) (by omega) (by omega), h.2.2.1 a (by omega) (by omega) (by omega)⟩
theorem tl_two (h12 : Lay12 E S o) {Q : QT} (hM : MR o I L A) (hA : wfA A) {b s : Nat} (hb : b < 6) (hs : s < 6) {can : Bool} (hcan : mayq (lwf A) (aq A) b s = can) (hk : ∀ I' L', FrT o I' I L' L → (∀ i, I' (o + 22) i = upf (I (o + 22)) (6 * b + s) (offI (lwf A) (aq A) b s) i) → (∀ i, I' (o + 23) i = upf (I (o + 23)) (6 * b + s) (nI (lik (lwf A) (aq A) b s)) i) → (∀ i, I' (o + 25) i = upf (I (o + 25)) (6 * b + s) (b2i (!can)) i) → V E kX12_layTwos (rmOf 7 0 0) Q 0 0 S I' L' 14 [(0, .ref o), (1, .int (nI b)), (2, .int (nI (s + 1)))] []) : V E kX12_layTwos (rmOf 7 0 0) Q 0 0 S I L 61 [(0, .ref o), (1, .int (nI b)), (2, .int (nI s)), (3, .int (b2i can))] [] := by
  have hq := hA.q
  have hl := hA.law
  have hr := hM.row
  have hls := lst_le (lwf A) (aq A) b
  have hwa := hq.wa s hs
  unfold offI difq at hk
  rw [hcan] at hk
  have fin : ∀ v, v = (if can = true then nI (if lst (lwf A) (aq A) b < aq A (86 + s) then aq A (86 + s) - lst (lwf A) (aq A) b else lst (lwf A) (aq A) b - aq A (86 + s)) else -1) → ∀ I1 L1, TsI o I1 I → TsL o L1 L → ∀ w, V E kX12_layTwos (rmOf 7 0 0) Q 0 0 S (up2 I1 (o + 22) (6 * b + s) v) L1 110 [(0, .ref o), (1, .int (nI b)), (2, .int (nI s)), (3, .int (b2i can)), (4, .int w)] [] := by
    intro v hv I1 L1 hI1 hL1 w
    have f1 : FrT o (up2 I1 (o + 22) (6 * b + s) v) I L1 L := (FrT.rf.ts hI1 hL1).up (by omega)
    have m1 := f1.mr hM
    refine V_aload_n (pc := 110) dX12_layTwos_110 rfl ?_
    refine V_getR (pc := 111) 12 43 dX12_layTwos_111 flX12_116 (by decide) h12.o h12.R43 ?_
    refine V_bipush (pc := 114) (v := nI 6) dX12_layTwos_114 (by decide) ?_
    refine V_iload_n (pc := 116) dX12_layTwos_116 rfl ?_
    refine V_imulN (pc := 117) dX12_layTwos_117 ?_
    refine V_iload_n (pc := 118) dX12_layTwos_118 rfl ?_
    refine V_iaddN (pc := 119) dX12_layTwos_119 ?_
    refine V_aload_n (pc := 120) dX12_layTwos_120 rfl ?_
    refine V_iload_n (pc := 121) dX12_layTwos_121 rfl ?_
    refine V_iload_n (pc := 122) dX12_layTwos_122 rfl ?_
    refine V_callV (pc := 123) (ci := 12) (c_X12_likesOf h12 m1.row hq (m1.law hq) hl.1 m1.od hb hs) dX12_layTwos_123 mlX12_250 mkX12_likesOf rfl rfl h12.o ⟨by decide, rfl⟩ ⟨Nat.le_of_ble_eq_true rfl, Nat.le_of_ble_eq_true rfl⟩ (Nat.le_of_ble_eq_true rfl) ⟨Nat.le_of_ble_eq_true rfl, Nat.le_of_ble_eq_true rfl⟩ (fun r S' I' L' hp => ?_)
    obtain ⟨rfl, rfl, hI2, hL2⟩ := hp
    refine V_iastore (pc := 126) dX12_layTwos_126 h12.A43 (by first | decide | omega) (by omega) ?_
    refine V_aload_n (pc := 127) dX12_layTwos_127 rfl ?_
    refine V_getR (pc := 128) 12 45 dX12_layTwos_128 flX12_122 (by decide) h12.o h12.R45 ?_
    refine V_bipush (pc := 131) (v := nI 6) dX12_layTwos_131 (by decide) ?_
    refine V_iload_n (pc := 133) dX12_layTwos_133 rfl ?_
    refine V_imulN (pc := 134) dX12_layTwos_134 ?_
    refine V_iload_n (pc := 135) dX12_layTwos_135 rfl ?_
    refine V_iaddN (pc := 136) dX12_layTwos_136 ?_
    refine V_iload_n (pc := 137) dX12_layTwos_137 rfl ?_
    refine V_if_neB (pc := 138) (tgt := 145) dX12_layTwos_138 (by decide) (fun c138 => ?_) (fun n138 => ?_)
    · skip
      refine V_iconst (pc := 145) (v := nI 0) dX12_layTwos_145 (by decide) ?_
      refine V_bastore (pc := 146) dX12_layTwos_146 h12.A45 (by first | decide | omega) (by omega) rfl ?_
      refine V_loc [0, 1, 2] rfl ?_
      refine V_iinc1 (pc := 147) (ls' := [(0, _), (1, _), (2, _)]) dX12_layTwos_147 rfl (by decide) rfl ?_
      refine V_goto (pc := 150) (tgt := 14) dX12_layTwos_150 (by decide) ?_
      refine hk _ _ (((f1.ts hI2 hL2).up (by omega)).up (by omega)) (fun i => ?_) (fun i => ?_) (fun i => ?_)
      · rw [up2_ne (by omega), up2_ne (by omega), hI2.1 _ (by omega)]
        unfold upf
        by_cases e : i = 6 * b + s
        · rw [if_pos e, e, up2_self]; exact hv
        · rw [if_neg e, up2_nej e, hI1.1 _ (by omega)]
      · rw [up2_ne (by omega)]
        unfold upf
        by_cases e : i = 6 * b + s
        · rw [if_pos e, e, up2_self]
        · rw [if_neg e, up2_nej e, hI2.1 _ (by omega), up2_ne (by omega), hI1.1 _ (by omega)]
      · unfold upf
        by_cases e : i = 6 * b + s
        · rw [if_pos e, e, up2_self]
          first | (rw [n138]; rfl) | (rw [c138]; rfl)
        · rw [if_neg e, up2_nej e, up2_ne (by omega), hI2.1 _ (by omega), up2_ne (by omega), hI1.1 _ (by omega)]
    · skip
      refine V_iconst (pc := 141) (v := nI 1) dX12_layTwos_141 (by decide) ?_
      refine V_goto (pc := 142) (tgt := 146) dX12_layTwos_142 (by decide) ?_
      refine V_bastore (pc := 146) dX12_layTwos_146 h12.A45 (by first | decide | omega) (by omega) rfl ?_
      refine V_loc [0, 1, 2] rfl ?_
      refine V_iinc1 (pc := 147) (ls' := [(0, _), (1, _), (2, _)]) dX12_layTwos_147 rfl (by decide) rfl ?_
      refine V_goto (pc := 150) (tgt := 14) dX12_layTwos_150 (by decide) ?_
      refine hk _ _ (((f1.ts hI2 hL2).up (by omega)).up (by omega)) (fun i => ?_) (fun i => ?_) (fun i => ?_)
      · rw [up2_ne (by omega), up2_ne (by omega), hI2.1 _ (by omega)]
        unfold upf
        by_cases e : i = 6 * b + s
        · rw [if_pos e, e, up2_self]; exact hv
        · rw [if_neg e, up2_nej e, hI1.1 _ (by omega)]
      · rw [up2_ne (by omega)]
        unfold upf
        by_cases e : i = 6 * b + s
        · rw [if_pos e, e, up2_self]
        · rw [if_neg e, up2_nej e, hI2.1 _ (by omega), up2_ne (by omega), hI1.1 _ (by omega)]
      · unfold upf
        by_cases e : i = 6 * b + s
        · rw [if_pos e, e, up2_self]
          first | (rw [n138]; rfl) | (rw [c138]; rfl)
        · rw [if_neg e, up2_nej e, up2_ne (by omega), hI2.1 _ (by omega), up2_ne (by omega), hI1.1 _ (by omega)]
  by_cases hlt : lst (lwf A) (aq A) b < aq A (86 + s)
  · have hsn := sub_neg hlt (by omega)
    rw [if_pos hlt] at fin
    refine V_aload_n (pc := 61) dX12_layTwos_61 rfl ?_
    refine V_iload_n (pc := 62) dX12_layTwos_62 rfl ?_
    refine V_callV (pc := 63) (ci := 12) (c_X12_lastsOf h12 hr hq (hM.law hq) hl.1 hM.od hb) dX12_layTwos_63 mlX12_222 mkX12_lastsOf rfl rfl h12.o ⟨by decide, rfl⟩ ⟨Nat.le_of_ble_eq_true rfl, Nat.le_of_ble_eq_true rfl⟩ (Nat.le_of_ble_eq_true rfl) ⟨Nat.le_of_ble_eq_true rfl, Nat.le_of_ble_eq_true rfl⟩ (fun r S' I' L' hp => ?_)
    obtain ⟨rfl, rfl, hI, hL⟩ := hp
    refine V_aload_n (pc := 66) dX12_layTwos_66 rfl ?_
    refine V_getR (pc := 67) 12 3 dX12_layTwos_67 flX12_13 (by decide) h12.o h12.R3 ?_
    refine V_bipush (pc := 70) (v := nI 86) dX12_layTwos_70 (by decide) ?_
    refine V_iload_n (pc := 72) dX12_layTwos_72 rfl ?_
    refine V_iaddN (pc := 73) dX12_layTwos_73 ?_
    refine V_ialoadE (pc := 74) dX12_layTwos_74 h12.A3 (by first | decide | omega) (by omega) (show (_ : Int32) = nI (aq A (86 + s)) by rw [hI.1 _ (by omega)]; exact hr.n (by omega)) ?_
    refine V_isub (pc := 75) dX12_layTwos_75 ?_
    refine V_istore (pc := 76) (ls' := [(0, _), (1, _), (2, _), (3, _), (4, _)]) dX12_layTwos_76 (by decide) rfl ?_
    refine V_aload_n (pc := 78) dX12_layTwos_78 rfl ?_
    refine V_getR (pc := 79) 12 42 dX12_layTwos_79 flX12_113 (by decide) h12.o h12.R42 ?_
    refine V_bipush (pc := 82) (v := nI 6) dX12_layTwos_82 (by decide) ?_
    refine V_iload_n (pc := 84) dX12_layTwos_84 rfl ?_
    refine V_imulN (pc := 85) dX12_layTwos_85 ?_
    refine V_iload_n (pc := 86) dX12_layTwos_86 rfl ?_
    refine V_iaddN (pc := 87) dX12_layTwos_87 ?_
    refine V_iload_n (pc := 88) dX12_layTwos_88 rfl ?_
    refine V_if_eqB (pc := 89) (tgt := 108) dX12_layTwos_89 (by decide) (fun c89 => ?_) (fun n89 => ?_)
    · skip
      refine V_iconst (pc := 108) (v := (-1)) dX12_layTwos_108 (by decide) ?_
      refine V_iastore (pc := 109) dX12_layTwos_109 h12.A42 (by first | decide | omega) (by omega) ?_
      first | exact fin _ (by rw [n89]; rfl) _ _ hI hL _ | exact fin _ (by rw [c89]; rfl) _ _ hI hL _
    · skip
      refine V_iload (pc := 92) dX12_layTwos_92 rfl ?_
      refine V_if_ge (pc := 94) (tgt := 103) dX12_layTwos_94 (by decide) (fun c94 => absurd c94 (by exact Int32.not_le.mpr hsn.1)) (fun n94 => ?_)
      refine V_iload (pc := 97) dX12_layTwos_97 rfl ?_
      refine V_ineg (pc := 99) dX12_layTwos_99 ?_
      rw [hsn.2]
      refine V_goto (pc := 100) (tgt := 109) dX12_layTwos_100 (by decide) ?_
      refine V_iastore (pc := 109) dX12_layTwos_109 h12.A42 (by first | decide | omega) (by omega) ?_
      first | exact fin _ (by rw [n89]; rfl) _ _ hI hL _ | exact fin _ (by rw [c89]; rfl) _ _ hI hL _
  · rw [if_neg hlt] at fin
    refine V_aload_n (pc := 61) dX12_layTwos_61 rfl ?_
    refine V_iload_n (pc := 62) dX12_layTwos_62 rfl ?_
    refine V_callV (pc := 63) (ci := 12) (c_X12_lastsOf h12 hr hq (hM.law hq) hl.1 hM.od hb) dX12_layTwos_63 mlX12_222 mkX12_lastsOf rfl rfl h12.o ⟨by decide, rfl⟩ ⟨Nat.le_of_ble_eq_true rfl, Nat.le_of_ble_eq_true rfl⟩ (Nat.le_of_ble_eq_true rfl) ⟨Nat.le_of_ble_eq_true rfl, Nat.le_of_ble_eq_true rfl⟩ (fun r S' I' L' hp => ?_)
    obtain ⟨rfl, rfl, hI, hL⟩ := hp
    refine V_aload_n (pc := 66) dX12_layTwos_66 rfl ?_
    refine V_getR (pc := 67) 12 3 dX12_layTwos_67 flX12_13 (by decide) h12.o h12.R3 ?_
    refine V_bipush (pc := 70) (v := nI 86) dX12_layTwos_70 (by decide) ?_
    refine V_iload_n (pc := 72) dX12_layTwos_72 rfl ?_
    refine V_iaddN (pc := 73) dX12_layTwos_73 ?_
    refine V_ialoadE (pc := 74) dX12_layTwos_74 h12.A3 (by first | decide | omega) (by omega) (show (_ : Int32) = nI (aq A (86 + s)) by rw [hI.1 _ (by omega)]; exact hr.n (by omega)) ?_
    refine V_isubN (pc := 75) dX12_layTwos_75 (by omega) ?_
    refine V_istore (pc := 76) (ls' := [(0, _), (1, _), (2, _), (3, _), (4, _)]) dX12_layTwos_76 (by decide) rfl ?_
    refine V_aload_n (pc := 78) dX12_layTwos_78 rfl ?_
    refine V_getR (pc := 79) 12 42 dX12_layTwos_79 flX12_113 (by decide) h12.o h12.R42 ?_
    refine V_bipush (pc := 82) (v := nI 6) dX12_layTwos_82 (by decide) ?_
    refine V_iload_n (pc := 84) dX12_layTwos_84 rfl ?_
    refine V_imulN (pc := 85) dX12_layTwos_85 ?_
    refine V_iload_n (pc := 86) dX12_layTwos_86 rfl ?_
    refine V_iaddN (pc := 87) dX12_layTwos_87 ?_
    refine V_iload_n (pc := 88) dX12_layTwos_88 rfl ?_
    refine V_if_eqB (pc := 89) (tgt := 108) dX12_layTwos_89 (by decide) (fun c89 => ?_) (fun n89 => ?_)
    · skip
      refine V_iconst (pc := 108) (v := (-1)) dX12_layTwos_108 (by decide) ?_
      refine V_iastore (pc := 109) dX12_layTwos_109 h12.A42 (by first | decide | omega) (by omega) ?_
      first | exact fin _ (by rw [n89]; rfl) _ _ hI hL _ | exact fin _ (by rw [c89]; rfl) _ _ hI hL _
    · skip
      refine V_iload (pc := 92) dX12_layTwos_92 rfl ?_
      refine V_if_geN (pc := 94) (tgt := 103) dX12_layTwos_94 (by decide) (by omega) ?_
      refine V_iload (pc := 103) dX12_layTwos_103 rfl ?_
      refine V_goto (pc := 105) (tgt := 109) dX12_layTwos_105 (by decide) ?_
      refine V_iastore (pc := 109) dX12_layTwos_109 h12.A42 (by first | decide | omega) (by omega) ?_
      first | exact fin _ (by rw [n89]; rfl) _ _ hI hL _ | exact fin _ (by rw [c89]; rfl) _ _ hI hL _
/-- the twos of the boxes ahead of j, and of box j those ahead of t -/
def TwM (I : IT) (o : Nat) (law : LawT) (q : Nat → Nat) (j t : Nat) : Prop := ∀ b s, s < q 1 → (b < j ∨ (b = j ∧ s < t)) → I (o + 22) (6 * b + s) = offI law q b s ∧ I (o + 23) (6 * b + s) = nI (lik law q b s) ∧ I (o + 25) (6 * b + s) = b2i (!mayq law q b s)
theorem lp_two (h12 : Lay12 E S o) {Q : QT} {I0 : IT} {L0 : LT} {j : Nat} (hM : MR o I0 L0 A) (hA : wfA A) (hj : j < aq A 0) (hf : FrT o I I0 L L0) (ht : TwM I o (lwf A) (aq A) j 0) (hk : ∀ I' L', FrT o I' I0 L' L0 → TwM I' o (lwf A) (aq A) (j + 1) 0 → V E kX12_layTwos (rmOf 7 0 0) Q 0 0 S I' L' 153 [(0, .ref o), (1, .int (nI j)), (2, .int (nI (aq A 1)))] []) : V E kX12_layTwos (rmOf 7 0 0) Q 0 0 S I L 14 [(0, .ref o), (1, .int (nI j)), (2, .int (nI 0))] [] := by
  have hq := hA.q
  have hns := hq.ns
  have hnb := hq.nb
  have hl := hA.law
  have key : ∀ t, t ≤ aq A 1 → ∀ I' L', FrT o I' I0 L' L0 → TwM I' o (lwf A) (aq A) j t → V E kX12_layTwos (rmOf 7 0 0) Q 0 0 S I' L' 14 [(0, .ref o), (1, .int (nI j)), (2, .int (nI t))] [] := by
    refine loopUp ?_ ?_
    · intro I' L' hf' ht'
      have hr := (hf'.mr hM).row
      refine V_iload_n (pc := 14) dX12_layTwos_14 rfl ?_
      refine V_aload_n (pc := 15) dX12_layTwos_15 rfl ?_
      refine V_getR (pc := 16) 12 3 dX12_layTwos_16 flX12_13 (by decide) h12.o h12.R3 ?_
      refine V_iconst (pc := 19) (v := nI 1) dX12_layTwos_19 (by decide) ?_
      refine V_ialoadE (pc := 20) dX12_layTwos_20 h12.A3 (by first | decide | omega) (by omega) (hr.n (by omega)) ?_
      refine V_icmp_geN (pc := 21) (tgt := 153) dX12_layTwos_21 (by decide) (by omega) (by omega) (fun c21 => ?_) (fun n21 => absurd n21 (by omega))
      exact hk I' L' hf' (fun b s hs hb => ht' b s hs (by omega))
    · intro t htl ih I' L' hf' ht'
      have hM' := hf'.mr hM
      have hr := hM'.row
      by_cases hjb : j < aq A 0
      · have hwe := hq.we j (by omega)
        have hbo := bof_le (aq A) t (aq A 0)
        have step : ∀ can, mayq (lwf A) (aq A) j t = can → ∀ I1 L1, TsI o I1 I' → TsL o L1 L' → V E kX12_layTwos (rmOf 7 0 0) Q 0 0 S I1 L1 61 [(0, .ref o), (1, .int (nI j)), (2, .int (nI t)), (3, .int (b2i can))] [] := by
          intro can hcan I1 L1 hI1 hL1
          have f1 := hf'.ts hI1 hL1
          refine tl_two h12 (f1.mr hM) hA (by omega) (by omega) hcan (fun I2 L2 f2 a1 a2 a3 => ih I2 L2 (FrT.tr f2 f1) (fun b s hs hb => ?_))
          rw [a1, a2, a3]
          unfold upf
          by_cases e : b = j ∧ s = t
          · rw [e.1, e.2, if_pos rfl, if_pos rfl, if_pos rfl, hcan]; exact ⟨rfl, rfl, rfl⟩
          · rw [if_neg (by omega), if_neg (by omega), if_neg (by omega), hI1.1 _ (by omega), hI1.1 _ (by omega), hI1.1 _ (by omega)]
            exact ht' b s hs (by omega)
        refine V_iload_n (pc := 14) dX12_layTwos_14 rfl ?_
        refine V_aload_n (pc := 15) dX12_layTwos_15 rfl ?_
        refine V_getR (pc := 16) 12 3 dX12_layTwos_16 flX12_13 (by decide) h12.o h12.R3 ?_
        refine V_iconst (pc := 19) (v := nI 1) dX12_layTwos_19 (by decide) ?_
        refine V_ialoadE (pc := 20) dX12_layTwos_20 h12.A3 (by first | decide | omega) (by omega) (hr.n (by omega)) ?_
        refine V_icmp_geN (pc := 21) (tgt := 153) dX12_layTwos_21 (by decide) (by omega) (by omega) (fun c21 => absurd c21 (by omega)) (fun n21 => ?_)
        refine V_aload_n (pc := 24) dX12_layTwos_24 rfl ?_
        refine V_getR (pc := 25) 12 3 dX12_layTwos_25 flX12_13 (by decide) h12.o h12.R3 ?_
        refine V_bipush (pc := 28) (v := nI 68) dX12_layTwos_28 (by decide) ?_
        refine V_iload_n (pc := 30) dX12_layTwos_30 rfl ?_
        refine V_iaddN (pc := 31) dX12_layTwos_31 ?_
        refine V_ialoadE (pc := 32) dX12_layTwos_32 h12.A3 (by first | decide | omega) (by omega) (hr.w (by omega)) ?_
        refine V_iconst (pc := 33) (v := (-1)) dX12_layTwos_33 (by decide) ?_
        refine V_icmp_ne (pc := 34) (tgt := 59) dX12_layTwos_34 (by decide) (fun c34 => ?_) (fun n34 => ?_)
        · skip
          refine V_iconst (pc := 59) (v := nI 0) dX12_layTwos_59 (by decide) ?_
          refine V_istore_n (pc := 60) (ls' := [(0, _), (1, _), (2, _), (3, _)]) dX12_layTwos_60 (by decide) rfl ?_
          first
          | exact step false (by unfold mayq; rw [decide_eq_false (fun z => c34 ((pred1_none (by omega)).mpr z))]; rfl) _ _ TsI.rf TsL.rf
          | exact step false (by unfold mayq; rw [decide_eq_false (fun z => c43 ((pred1_none (by omega)).mpr z))]; exact Bool.and_false _) _ _ TsI.rf TsL.rf
          | exact step false (by unfold mayq; rw [c52]; show (_ && (_ && false)) = false; rw [Bool.and_false, Bool.and_false]) _ _ hI hL
          | exact step true (by unfold mayq; rw [n52, decide_eq_true ((pred1_none (by omega)).mp n34), decide_eq_true ((pred1_none (by omega)).mp n43)]; rfl) _ _ hI hL
        · skip
          refine V_aload_n (pc := 37) dX12_layTwos_37 rfl ?_
          refine V_iload_n (pc := 38) dX12_layTwos_38 rfl ?_
          refine V_callVd (pc := 39) (ci := 12) (c_X12_boxOf (by first | assumption | omega | exact h12) (by first | assumption | omega | exact h12) (by first | assumption | omega | exact h12) (by first | assumption | omega | exact h12)) dX12_layTwos_39 mlX12_244 mkX12_boxOf rfl rfl h12.o ⟨by decide, rfl⟩ ⟨Nat.le_of_ble_eq_true rfl, Nat.le_of_ble_eq_true rfl⟩ (Nat.le_of_ble_eq_true rfl) ⟨Nat.le_of_ble_eq_true rfl, Nat.le_of_ble_eq_true rfl⟩ ?_
          refine V_iconst (pc := 42) (v := (-1)) dX12_layTwos_42 (by decide) ?_
          refine V_icmp_ne (pc := 43) (tgt := 59) dX12_layTwos_43 (by decide) (fun c43 => ?_) (fun n43 => ?_)
          · skip
            refine V_iconst (pc := 59) (v := nI 0) dX12_layTwos_59 (by decide) ?_
            refine V_istore_n (pc := 60) (ls' := [(0, _), (1, _), (2, _), (3, _)]) dX12_layTwos_60 (by decide) rfl ?_
            first
            | exact step false (by unfold mayq; rw [decide_eq_false (fun z => c34 ((pred1_none (by omega)).mpr z))]; rfl) _ _ TsI.rf TsL.rf
            | exact step false (by unfold mayq; rw [decide_eq_false (fun z => c43 ((pred1_none (by omega)).mpr z))]; exact Bool.and_false _) _ _ TsI.rf TsL.rf
            | exact step false (by unfold mayq; rw [c52]; show (_ && (_ && false)) = false; rw [Bool.and_false, Bool.and_false]) _ _ hI hL
            | exact step true (by unfold mayq; rw [n52, decide_eq_true ((pred1_none (by omega)).mp n34), decide_eq_true ((pred1_none (by omega)).mp n43)]; rfl) _ _ hI hL
          · skip
            refine V_aload_n (pc := 46) dX12_layTwos_46 rfl ?_
            refine V_iload_n (pc := 47) dX12_layTwos_47 rfl ?_
            refine V_iload_n (pc := 48) dX12_layTwos_48 rfl ?_
            refine V_callV (pc := 49) (ci := 12) (c_X12_isBarred h12 hr hq (hM'.law hq) hl.2.2 hM'.od (by omega) (by omega)) dX12_layTwos_49 mlX12_253 mkX12_isBarred rfl rfl h12.o ⟨by decide, rfl⟩ ⟨Nat.le_of_ble_eq_true rfl, Nat.le_of_ble_eq_true rfl⟩ (Nat.le_of_ble_eq_true rfl) ⟨Nat.le_of_ble_eq_true rfl, Nat.le_of_ble_eq_true rfl⟩ (fun r S' I' L' hp => ?_)
            obtain ⟨rfl, rfl, hI, hL⟩ := hp
            refine V_if_neB (pc := 52) (tgt := 59) dX12_layTwos_52 (by decide) (fun c52 => ?_) (fun n52 => ?_)
            · skip
              refine V_iconst (pc := 59) (v := nI 0) dX12_layTwos_59 (by decide) ?_
              refine V_istore_n (pc := 60) (ls' := [(0, _), (1, _), (2, _), (3, _)]) dX12_layTwos_60 (by decide) rfl ?_
              first
              | exact step false (by unfold mayq; rw [decide_eq_false (fun z => c34 ((pred1_none (by omega)).mpr z))]; rfl) _ _ TsI.rf TsL.rf
              | exact step false (by unfold mayq; rw [decide_eq_false (fun z => c43 ((pred1_none (by omega)).mpr z))]; exact Bool.and_false _) _ _ TsI.rf TsL.rf
              | exact step false (by unfold mayq; rw [c52]; show (_ && (_ && false)) = false; rw [Bool.and_false, Bool.and_false]) _ _ hI hL
              | exact step true (by unfold mayq; rw [n52, decide_eq_true ((pred1_none (by omega)).mp n34), decide_eq_true ((pred1_none (by omega)).mp n43)]; rfl) _ _ hI hL
            · skip
              refine V_iconst (pc := 55) (v := nI 1) dX12_layTwos_55 (by decide) ?_
              refine V_goto (pc := 56) (tgt := 60) dX12_layTwos_56 (by decide) ?_
              refine V_istore_n (pc := 60) (ls' := [(0, _), (1, _), (2, _), (3, _)]) dX12_layTwos_60 (by decide) rfl ?_
              first
              | exact step false (by unfold mayq; rw [decide_eq_false (fun z => c34 ((pred1_none (by omega)).mpr z))]; rfl) _ _ TsI.rf TsL.rf
              | exact step false (by unfold mayq; rw [decide_eq_false (fun z => c43 ((pred1_none (by omega)).mpr z))]; exact Bool.and_false _) _ _ TsI.rf TsL.rf
              | exact step false (by unfold mayq; rw [c52]; show (_ && (_ && false)) = false; rw [Bool.and_false, Bool.and_false]) _ _ hI hL
              | exact step true (by unfold mayq; rw [n52, decide_eq_true ((pred1_none (by omega)).mp n34), decide_eq_true ((pred1_none (by omega)).mp n43)]; rfl) _ _ hI hL
      · exact absurd hjb (by omega)
  exact key 0 (by omega) I L hf ht
theorem tl_two0 (h12 : Lay12 E S o) {q : Nat → Nat} {j : Nat} {post : Option Value → ST → IT → LT → Prop} (hr : RowM I (o + 2) q) (hj : q 0 ≤ j) (h6 : j ≤ 6) (hp : post none S I L) : V E kX12_layTwos (rmOf 7 0 0) (QM E post 0 0) 0 0 S I L 2 [(0, .ref o), (1, .int (nI j))] [] := by
  refine V_iload_n (pc := 2) dX12_layTwos_2 rfl ?_
  refine V_aload_n (pc := 3) dX12_layTwos_3 rfl ?_
  refine V_getR (pc := 4) 12 3 dX12_layTwos_4 flX12_13 (by decide) h12.o h12.R3 ?_
  refine V_iconst (pc := 7) (v := nI 0) dX12_layTwos_7 (by decide) ?_
  refine V_ialoadE (pc := 8) dX12_layTwos_8 h12.A3 (by first | decide | omega) (by omega) (hr.n (by omega)) ?_
  refine V_icmp_geN (pc := 9) (tgt := 159) dX12_layTwos_9 (by decide) (by omega) (by omega) (fun c9 => ?_) (fun n9 => absurd n9 (by omega))
  refine V_vret (pc := 159) dX12_layTwos_159 rfl (by first | decide | omega) (by first | decide | omega) ?_
  exact hp
theorem tl_two1 (h12 : Lay12 E S o) {Q : QT} {q : Nat → Nat} {j : Nat} (hr : RowM I (o + 2) q) (hj : j < q 0) (h6 : q 0 ≤ 6) (hk : V E kX12_layTwos (rmOf 7 0 0) Q 0 0 S I L 14 [(0, .ref o), (1, .int (nI j)), (2, .int (nI 0))] []) : V E kX12_layTwos (rmOf 7 0 0) Q 0 0 S I L 2 [(0, .ref o), (1, .int (nI j))] [] := by
  refine V_iload_n (pc := 2) dX12_layTwos_2 rfl ?_
  refine V_aload_n (pc := 3) dX12_layTwos_3 rfl ?_
  refine V_getR (pc := 4) 12 3 dX12_layTwos_4 flX12_13 (by decide) h12.o h12.R3 ?_
  refine V_iconst (pc := 7) (v := nI 0) dX12_layTwos_7 (by decide) ?_
  refine V_ialoadE (pc := 8) dX12_layTwos_8 h12.A3 (by first | decide | omega) (by omega) (hr.n (by omega)) ?_
  refine V_icmp_geN (pc := 9) (tgt := 159) dX12_layTwos_9 (by decide) (by omega) (by omega) (fun c9 => absurd c9 (by omega)) (fun n9 => ?_)
  refine V_iconst (pc := 12) (v := nI 0) dX12_layTwos_12 (by decide) ?_
  refine V_istore_n (pc := 13) (ls' := [(0, _), (1, _), (2, _)]) dX12_layTwos_13 (by decide) rfl ?_
  exact hk
theorem tl_two2 (h12 : Lay12 E S o) {Q : QT} {j n m : Nat} (hj : j < n) (hn : n ≤ 6) (hk : V E kX12_layTwos (rmOf 7 0 0) Q 0 0 S I L 2 [(0, .ref o), (1, .int (nI (j + 1)))] []) : V E kX12_layTwos (rmOf 7 0 0) Q 0 0 S I L 153 [(0, .ref o), (1, .int (nI j)), (2, .int (nI m))] [] := by
  refine V_loc [0, 1] rfl ?_
  refine V_iinc1 (pc := 153) (ls' := [(0, _), (1, _)]) dX12_layTwos_153 rfl (by decide) rfl ?_
  refine V_goto (pc := 156) (tgt := 2) dX12_layTwos_156 (by decide) ?_
  exact hk
theorem c_X12_layTwos (h12 : Lay12 E S o) (hM : MR o I L A) (hA : wfA A) : C E kX12_layTwos 7 0 0 [.ref o] S I L (fun r S' I' L' => r = none ∧ S = S' ∧ FrT o I' I L' L ∧ TwM I' o (lwf A) (aq A) (aq A 0) 0) := by
  have hq := hA.q
  have hnb := hq.nb
  refine C_of (by decide) (Nat.le_of_ble_eq_true rfl) ?_
  refine V_iconst (pc := 0) (v := nI 0) dX12_layTwos_0 (by decide) ?_
  refine V_istore_n (pc := 1) (ls' := [(0, _), (1, _)]) dX12_layTwos_1 (by decide) rfl ?_
  have key : ∀ j, j ≤ aq A 0 → ∀ I' L', FrT o I' I L' L → TwM I' o (lwf A) (aq A) j 0 → V E kX12_layTwos (rmOf 7 0 0) (QM E (fun r S' I' L' => r = none ∧ S = S' ∧ FrT o I' I L' L ∧ TwM I' o (lwf A) (aq A) (aq A 0) 0) 0 0) 0 0 S I' L' 2 [(0, .ref o), (1, .int (nI j))] [] := by
    refine loopUp ?_ ?_
    · intro I' L' hf ht
      have hr := (hf.mr hM).row
      exact tl_two0 h12 hr (Nat.le_refl _) hnb ⟨rfl, rfl, hf, ht⟩
    · intro j hj ih I' L' hf ht
      have hr := (hf.mr hM).row
      exact tl_two1 h12 hr hj hnb (lp_two h12 hM hA hj hf ht (fun I2 L2 f2 t2 => tl_two2 h12 hj hnb (ih I2 L2 f2 t2)))
  exact key 0 (by omega) I L FrT.rf (fun b s _ hb => absurd hb (by omega))
def NrM (I : IT) (o nb ns : Nat) (may rf : Nat → Nat → Bool) (dif lk : Nat → Nat → Nat) : Prop := ∀ b s, b < nb → s < ns → (may b s = true → I (o + 22) (6 * b + s) = nI (dif b s)) ∧ I (o + 23) (6 * b + s) = nI (lk b s) ∧ I (o + 25) (6 * b + s) = b2i (rf b s)
theorem c_X12_nearest (h12 : Lay12 E S o) {q : Nat → Nat} {may rf : Nat → Nat → Bool} {dif lk : Nat → Nat → Nat} {b : Nat} (hr : RowM I (o + 2) q) (hq : wq q) (hb : b < q 0) (hN : NrM I o (q 0) (q 1) may rf dif lk) (hm : ∀ b s, b < q 0 → s < q 1 → rf b s = false → may b s = true) (hd : ∀ b s, s < 6 → dif b s ≤ 60) : Cd E kX12_nearest 0 0 0 [.ref o, .int (nI b)] S I L (.int (pred1 (nst rf dif b (q 1)))) S I L := by
  have hns := hq.ns
  have hnb := hq.nb
  refine C_of (by decide) (Nat.le_of_ble_eq_true rfl) ?_
  refine V_iconst (pc := 0) (v := (-1)) dX12_nearest_0 (by decide) ?_
  refine V_istore_n (pc := 1) (ls' := [(0, _), (1, _), (2, _)]) dX12_nearest_1 (by decide) rfl ?_
  refine V_iconst (pc := 2) (v := nI 0) dX12_nearest_2 (by decide) ?_
  refine V_istore_n (pc := 3) (ls' := [(0, _), (1, _), (2, _), (3, _)]) dX12_nearest_3 (by decide) rfl ?_
  refine loopUp (P := fun j => V E kX12_nearest (rmOf 0 0 0) (Qd E (.int (pred1 (nst rf dif b (q 1)))) S I L) 0 0 S I L 4 [(0, .ref o), (1, .int (nI b)), (2, .int (pred1 (nst rf dif b j))), (3, .int (nI j))] []) (n := q 1) ?_ ?_ 0 (by omega)
  · skip
    refine V_iload_n (pc := 4) dX12_nearest_4 rfl ?_
    refine V_aload_n (pc := 5) dX12_nearest_5 rfl ?_
    refine V_getR (pc := 6) 12 3 dX12_nearest_6 flX12_13 (by decide) h12.o h12.R3 ?_
    refine V_iconst (pc := 9) (v := nI 1) dX12_nearest_9 (by decide) ?_
    refine V_ialoadE (pc := 10) dX12_nearest_10 h12.A3 (by first | decide | omega) (by omega) (hr.n (by omega)) ?_
    refine V_icmp_geN (pc := 11) (tgt := 70) dX12_nearest_11 (by decide) (by omega) (by omega) (fun c11 => ?_) (fun n11 => absurd n11 (by omega))
    refine V_iload_n (pc := 70) dX12_nearest_70 rfl ?_
    refine V_iret (pc := 71) dX12_nearest_71 rfl (by first | decide | omega) (by first | decide | omega) ?_
    exact ⟨rfl, rfl, rfl, rfl⟩
  · intro j hj ih
    have hn := hN b j hb hj
    have hdj := hd b j (by omega)
    rw [nst] at ih
    rcases nst_ok rf dif b j with ⟨e, -⟩ | ⟨t, t1, e, t3, -⟩
    · rw [e] at ih ⊢
      refine V_iload_n (pc := 4) dX12_nearest_4 rfl ?_
      refine V_aload_n (pc := 5) dX12_nearest_5 rfl ?_
      refine V_getR (pc := 6) 12 3 dX12_nearest_6 flX12_13 (by decide) h12.o h12.R3 ?_
      refine V_iconst (pc := 9) (v := nI 1) dX12_nearest_9 (by decide) ?_
      refine V_ialoadE (pc := 10) dX12_nearest_10 h12.A3 (by first | decide | omega) (by omega) (hr.n (by omega)) ?_
      refine V_icmp_geN (pc := 11) (tgt := 70) dX12_nearest_11 (by decide) (by omega) (by omega) (fun c11 => absurd c11 (by omega)) (fun n11 => ?_)
      refine V_aload_n (pc := 14) dX12_nearest_14 rfl ?_
      refine V_getR (pc := 15) 12 45 dX12_nearest_15 flX12_122 (by decide) h12.o h12.R45 ?_
      refine V_bipush (pc := 18) (v := nI 6) dX12_nearest_18 (by decide) ?_
      refine V_iload_n (pc := 20) dX12_nearest_20 rfl ?_
      refine V_imulN (pc := 21) dX12_nearest_21 ?_
      refine V_iload_n (pc := 22) dX12_nearest_22 rfl ?_
      refine V_iaddN (pc := 23) dX12_nearest_23 ?_
      refine V_baloadE (pc := 24) dX12_nearest_24 h12.A45 (by first | decide | omega) (by omega) (hn.2.2) ?_
      refine V_if_neB (pc := 25) (tgt := 62) dX12_nearest_25 (by decide) (fun c25 => ?_) (fun n25 => ?_)
      · skip
        rw [if_neg (fun z => by rw [z.1] at c25; exact absurd c25 (by decide))] at ih
        refine V_iload_n (pc := 62) dX12_nearest_62 rfl ?_
        refine V_istore_n (pc := 63) (ls' := [(0, _), (1, _), (2, _), (3, _)]) dX12_nearest_63 (by decide) rfl ?_
        refine V_iinc1 (pc := 64) (ls' := [(0, _), (1, _), (2, _), (3, _)]) dX12_nearest_64 rfl (by decide) rfl ?_
        refine V_goto (pc := 67) (tgt := 4) dX12_nearest_67 (by decide) ?_
        first | exact ih | (rw [pred1_s] at ih; exact ih)
      · skip
        refine V_iload_n (pc := 28) dX12_nearest_28 rfl ?_
        refine V_iconst (pc := 29) (v := (-1)) dX12_nearest_29 (by decide) ?_
        refine V_icmp_eq (pc := 30) (tgt := 58) dX12_nearest_30 (by decide) (fun c30 => ?_) (fun n30 => absurd n30 (by exact fun z => z pred1_0))
        rw [if_pos ⟨n25, Or.inl rfl⟩] at ih
        refine V_iload_n (pc := 58) dX12_nearest_58 rfl ?_
        refine V_goto (pc := 59) (tgt := 63) dX12_nearest_59 (by decide) ?_
        refine V_istore_n (pc := 63) (ls' := [(0, _), (1, _), (2, _), (3, _)]) dX12_nearest_63 (by decide) rfl ?_
        refine V_iinc1 (pc := 64) (ls' := [(0, _), (1, _), (2, _), (3, _)]) dX12_nearest_64 rfl (by decide) rfl ?_
        refine V_goto (pc := 67) (tgt := 4) dX12_nearest_67 (by decide) ?_
        first | exact ih | (rw [pred1_s] at ih; exact ih)
    · rw [e] at ih ⊢
      rw [pred1_s]
      have hnt := hN b t hb (by omega)
      have hdt := hd b t (by omega)
      have hmt := hnt.1 (hm b t hb (by omega) t3)
      rw [show t + 1 - 1 = t by omega] at ih
      refine V_iload_n (pc := 4) dX12_nearest_4 rfl ?_
      refine V_aload_n (pc := 5) dX12_nearest_5 rfl ?_
      refine V_getR (pc := 6) 12 3 dX12_nearest_6 flX12_13 (by decide) h12.o h12.R3 ?_
      refine V_iconst (pc := 9) (v := nI 1) dX12_nearest_9 (by decide) ?_
      refine V_ialoadE (pc := 10) dX12_nearest_10 h12.A3 (by first | decide | omega) (by omega) (hr.n (by omega)) ?_
      refine V_icmp_geN (pc := 11) (tgt := 70) dX12_nearest_11 (by decide) (by omega) (by omega) (fun c11 => absurd c11 (by omega)) (fun n11 => ?_)
      refine V_aload_n (pc := 14) dX12_nearest_14 rfl ?_
      refine V_getR (pc := 15) 12 45 dX12_nearest_15 flX12_122 (by decide) h12.o h12.R45 ?_
      refine V_bipush (pc := 18) (v := nI 6) dX12_nearest_18 (by decide) ?_
      refine V_iload_n (pc := 20) dX12_nearest_20 rfl ?_
      refine V_imulN (pc := 21) dX12_nearest_21 ?_
      refine V_iload_n (pc := 22) dX12_nearest_22 rfl ?_
      refine V_iaddN (pc := 23) dX12_nearest_23 ?_
      refine V_baloadE (pc := 24) dX12_nearest_24 h12.A45 (by first | decide | omega) (by omega) (hn.2.2) ?_
      refine V_if_neB (pc := 25) (tgt := 62) dX12_nearest_25 (by decide) (fun c25 => ?_) (fun n25 => ?_)
      · skip
        first
        | (rw [if_neg (fun z => by rw [z.1] at c25; exact absurd c25 (by decide)), pred1_s] at ih)
        | (rw [if_neg (fun z => by have := z.2; omega), pred1_s] at ih)
        refine V_iload_n (pc := 62) dX12_nearest_62 rfl ?_
        refine V_istore_n (pc := 63) (ls' := [(0, _), (1, _), (2, _), (3, _)]) dX12_nearest_63 (by decide) rfl ?_
        refine V_iinc1 (pc := 64) (ls' := [(0, _), (1, _), (2, _), (3, _)]) dX12_nearest_64 rfl (by decide) rfl ?_
        refine V_goto (pc := 67) (tgt := 4) dX12_nearest_67 (by decide) ?_
        exact ih
      · skip
        refine V_iload_n (pc := 28) dX12_nearest_28 rfl ?_
        refine V_iconst (pc := 29) (v := (-1)) dX12_nearest_29 (by decide) ?_
        refine V_icmp_eq (pc := 30) (tgt := 58) dX12_nearest_30 (by decide) (fun c30 => absurd c30 (by exact fun z => absurd (by rw [z]; decide : nI t < 0) (nI_pos (by omega)))) (fun n30 => ?_)
        refine V_aload_n (pc := 33) dX12_nearest_33 rfl ?_
        refine V_getR (pc := 34) 12 42 dX12_nearest_34 flX12_113 (by decide) h12.o h12.R42 ?_
        refine V_bipush (pc := 37) (v := nI 6) dX12_nearest_37 (by decide) ?_
        refine V_iload_n (pc := 39) dX12_nearest_39 rfl ?_
        refine V_imulN (pc := 40) dX12_nearest_40 ?_
        refine V_iload_n (pc := 41) dX12_nearest_41 rfl ?_
        refine V_iaddN (pc := 42) dX12_nearest_42 ?_
        refine V_ialoadE (pc := 43) dX12_nearest_43 h12.A42 (by first | decide | omega) (by omega) (hn.1 (hm b j hb hj n25)) ?_
        refine V_aload_n (pc := 44) dX12_nearest_44 rfl ?_
        refine V_getR (pc := 45) 12 42 dX12_nearest_45 flX12_113 (by decide) h12.o h12.R42 ?_
        refine V_bipush (pc := 48) (v := nI 6) dX12_nearest_48 (by decide) ?_
        refine V_iload_n (pc := 50) dX12_nearest_50 rfl ?_
        refine V_imulN (pc := 51) dX12_nearest_51 ?_
        refine V_iload_n (pc := 52) dX12_nearest_52 rfl ?_
        refine V_iaddN (pc := 53) dX12_nearest_53 ?_
        refine V_ialoadE (pc := 54) dX12_nearest_54 h12.A42 (by first | decide | omega) (by omega) (hmt) ?_
        refine V_icmp_geN (pc := 55) (tgt := 62) dX12_nearest_55 (by decide) (by omega) (by omega) (fun c55 => ?_) (fun n55 => ?_)
        · skip
          first
          | (rw [if_neg (fun z => by rw [z.1] at c25; exact absurd c25 (by decide)), pred1_s] at ih)
          | (rw [if_neg (fun z => by have := z.2; omega), pred1_s] at ih)
          refine V_iload_n (pc := 62) dX12_nearest_62 rfl ?_
          refine V_istore_n (pc := 63) (ls' := [(0, _), (1, _), (2, _), (3, _)]) dX12_nearest_63 (by decide) rfl ?_
          refine V_iinc1 (pc := 64) (ls' := [(0, _), (1, _), (2, _), (3, _)]) dX12_nearest_64 rfl (by decide) rfl ?_
          refine V_goto (pc := 67) (tgt := 4) dX12_nearest_67 (by decide) ?_
          exact ih
        · skip
          rw [if_pos ⟨n25, Or.inr (by omega)⟩, pred1_s] at ih
          refine V_iload_n (pc := 58) dX12_nearest_58 rfl ?_
          refine V_goto (pc := 59) (tgt := 63) dX12_nearest_59 (by decide) ?_
          refine V_istore_n (pc := 63) (ls' := [(0, _), (1, _), (2, _), (3, _)]) dX12_nearest_63 (by decide) rfl ?_
          refine V_iinc1 (pc := 64) (ls' := [(0, _), (1, _), (2, _), (3, _)]) dX12_nearest_64 rfl (by decide) rfl ?_
          refine V_goto (pc := 67) (tgt := 4) dX12_nearest_67 (by decide) ?_
          exact ih
theorem c_X12_keptBy (h12 : Lay12 E S o) {q : Nat → Nat} {may rf : Nat → Nat → Bool} {dif lk : Nat → Nat → Nat} {M : Nat → Nat} {s : Nat} (hr : RowM I (o + 2) q) (hq : wq q) (hs : s < q 1) (hN : NrM I o (q 0) (q 1) may rf dif lk) (hM : ∀ b, b < q 0 → I (o + 24) b = pred1 (M b) ∧ M b ≤ q 1) (hl : ∀ b s, lk b s ≤ 99) : Cd E kX12_keptBy 0 0 0 [.ref o, .int (nI s)] S I L (.int (pred1 (kpt M lk s (q 0)))) S I L := by
  have hns := hq.ns
  have hnb := hq.nb
  refine C_of (by decide) (Nat.le_of_ble_eq_true rfl) ?_
  refine V_iconst (pc := 0) (v := (-1)) dX12_keptBy_0 (by decide) ?_
  refine V_istore_n (pc := 1) (ls' := [(0, _), (1, _), (2, _)]) dX12_keptBy_1 (by decide) rfl ?_
  refine V_iconst (pc := 2) (v := nI 0) dX12_keptBy_2 (by decide) ?_
  refine V_istore_n (pc := 3) (ls' := [(0, _), (1, _), (2, _), (3, _)]) dX12_keptBy_3 (by decide) rfl ?_
  refine loopUp (P := fun j => V E kX12_keptBy (rmOf 0 0 0) (Qd E (.int (pred1 (kpt M lk s (q 0)))) S I L) 0 0 S I L 4 [(0, .ref o), (1, .int (nI s)), (2, .int (pred1 (kpt M lk s j))), (3, .int (nI j))] []) (n := q 0) ?_ ?_ 0 (by omega)
  · skip
    refine V_iload_n (pc := 4) dX12_keptBy_4 rfl ?_
    refine V_aload_n (pc := 5) dX12_keptBy_5 rfl ?_
    refine V_getR (pc := 6) 12 3 dX12_keptBy_6 flX12_13 (by decide) h12.o h12.R3 ?_
    refine V_iconst (pc := 9) (v := nI 0) dX12_keptBy_9 (by decide) ?_
    refine V_ialoadE (pc := 10) dX12_keptBy_10 h12.A3 (by first | decide | omega) (by omega) (hr.n (by omega)) ?_
    refine V_icmp_geN (pc := 11) (tgt := 66) dX12_keptBy_11 (by decide) (by omega) (by omega) (fun c11 => ?_) (fun n11 => absurd n11 (by omega))
    refine V_iload_n (pc := 66) dX12_keptBy_66 rfl ?_
    refine V_iret (pc := 67) dX12_keptBy_67 rfl (by first | decide | omega) (by first | decide | omega) ?_
    exact ⟨rfl, rfl, rfl, rfl⟩
  · intro j hj ih
    have hn := hN j s hj hs
    have hlj := hl j s
    have hMj := hM j hj
    rw [kpt] at ih
    rcases kpt_ok M lk s j with ⟨e, -⟩ | ⟨t, t1, e, t3, -⟩
    · rw [e] at ih ⊢
      refine V_iload_n (pc := 4) dX12_keptBy_4 rfl ?_
      refine V_aload_n (pc := 5) dX12_keptBy_5 rfl ?_
      refine V_getR (pc := 6) 12 3 dX12_keptBy_6 flX12_13 (by decide) h12.o h12.R3 ?_
      refine V_iconst (pc := 9) (v := nI 0) dX12_keptBy_9 (by decide) ?_
      refine V_ialoadE (pc := 10) dX12_keptBy_10 h12.A3 (by first | decide | omega) (by omega) (hr.n (by omega)) ?_
      refine V_icmp_geN (pc := 11) (tgt := 66) dX12_keptBy_11 (by decide) (by omega) (by omega) (fun c11 => absurd c11 (by omega)) (fun n11 => ?_)
      refine V_aload_n (pc := 14) dX12_keptBy_14 rfl ?_
      refine V_getR (pc := 15) 12 44 dX12_keptBy_15 flX12_119 (by decide) h12.o h12.R44 ?_
      refine V_iload_n (pc := 18) dX12_keptBy_18 rfl ?_
      refine V_ialoadE (pc := 19) dX12_keptBy_19 h12.A44 (by first | decide | omega) (by omega) (hMj.1) ?_
      refine V_iload_n (pc := 20) dX12_keptBy_20 rfl ?_
      refine V_icmp_ne (pc := 21) (tgt := 58) dX12_keptBy_21 (by decide) (fun c21 => ?_) (fun n21 => ?_)
      · skip
        rw [if_neg (fun z => c21 ((pred1_some (by omega) (by omega)).mpr z.1))] at ih
        refine V_iload_n (pc := 58) dX12_keptBy_58 rfl ?_
        refine V_istore_n (pc := 59) (ls' := [(0, _), (1, _), (2, _), (3, _)]) dX12_keptBy_59 (by decide) rfl ?_
        refine V_iinc1 (pc := 60) (ls' := [(0, _), (1, _), (2, _), (3, _)]) dX12_keptBy_60 rfl (by decide) rfl ?_
        refine V_goto (pc := 63) (tgt := 4) dX12_keptBy_63 (by decide) ?_
        first | exact ih | (rw [pred1_s] at ih; exact ih)
      · skip
        refine V_iload_n (pc := 24) dX12_keptBy_24 rfl ?_
        refine V_iconst (pc := 25) (v := (-1)) dX12_keptBy_25 (by decide) ?_
        refine V_icmp_eq (pc := 26) (tgt := 54) dX12_keptBy_26 (by decide) (fun c26 => ?_) (fun n26 => absurd n26 (by exact fun z => z pred1_0))
        rw [if_pos ⟨(pred1_some (by omega) (by omega)).mp n21, Or.inl rfl⟩] at ih
        refine V_iload_n (pc := 54) dX12_keptBy_54 rfl ?_
        refine V_goto (pc := 55) (tgt := 59) dX12_keptBy_55 (by decide) ?_
        refine V_istore_n (pc := 59) (ls' := [(0, _), (1, _), (2, _), (3, _)]) dX12_keptBy_59 (by decide) rfl ?_
        refine V_iinc1 (pc := 60) (ls' := [(0, _), (1, _), (2, _), (3, _)]) dX12_keptBy_60 rfl (by decide) rfl ?_
        refine V_goto (pc := 63) (tgt := 4) dX12_keptBy_63 (by decide) ?_
        first | exact ih | (rw [pred1_s] at ih; exact ih)
    · rw [e] at ih ⊢
      rw [pred1_s]
      have hnt := hN t s (by omega) hs
      have hlt := hl t s
      rw [show t + 1 - 1 = t by omega] at ih
      refine V_iload_n (pc := 4) dX12_keptBy_4 rfl ?_
      refine V_aload_n (pc := 5) dX12_keptBy_5 rfl ?_
      refine V_getR (pc := 6) 12 3 dX12_keptBy_6 flX12_13 (by decide) h12.o h12.R3 ?_
      refine V_iconst (pc := 9) (v := nI 0) dX12_keptBy_9 (by decide) ?_
      refine V_ialoadE (pc := 10) dX12_keptBy_10 h12.A3 (by first | decide | omega) (by omega) (hr.n (by omega)) ?_
      refine V_icmp_geN (pc := 11) (tgt := 66) dX12_keptBy_11 (by decide) (by omega) (by omega) (fun c11 => absurd c11 (by omega)) (fun n11 => ?_)
      refine V_aload_n (pc := 14) dX12_keptBy_14 rfl ?_
      refine V_getR (pc := 15) 12 44 dX12_keptBy_15 flX12_119 (by decide) h12.o h12.R44 ?_
      refine V_iload_n (pc := 18) dX12_keptBy_18 rfl ?_
      refine V_ialoadE (pc := 19) dX12_keptBy_19 h12.A44 (by first | decide | omega) (by omega) (hMj.1) ?_
      refine V_iload_n (pc := 20) dX12_keptBy_20 rfl ?_
      refine V_icmp_ne (pc := 21) (tgt := 58) dX12_keptBy_21 (by decide) (fun c21 => ?_) (fun n21 => ?_)
      · skip
        first
        | (rw [if_neg (fun z => c21 ((pred1_some (by omega) (by omega)).mpr z.1)), pred1_s] at ih)
        | (rw [if_neg (fun z => by have := z.2; omega), pred1_s] at ih)
        refine V_iload_n (pc := 58) dX12_keptBy_58 rfl ?_
        refine V_istore_n (pc := 59) (ls' := [(0, _), (1, _), (2, _), (3, _)]) dX12_keptBy_59 (by decide) rfl ?_
        refine V_iinc1 (pc := 60) (ls' := [(0, _), (1, _), (2, _), (3, _)]) dX12_keptBy_60 rfl (by decide) rfl ?_
        refine V_goto (pc := 63) (tgt := 4) dX12_keptBy_63 (by decide) ?_
        exact ih
      · skip
        refine V_iload_n (pc := 24) dX12_keptBy_24 rfl ?_
        refine V_iconst (pc := 25) (v := (-1)) dX12_keptBy_25 (by decide) ?_
        refine V_icmp_eq (pc := 26) (tgt := 54) dX12_keptBy_26 (by decide) (fun c26 => absurd c26 (by exact fun z => absurd (by rw [z]; decide : nI t < 0) (nI_pos (by omega)))) (fun n26 => ?_)
        refine V_aload_n (pc := 29) dX12_keptBy_29 rfl ?_
        refine V_getR (pc := 30) 12 43 dX12_keptBy_30 flX12_116 (by decide) h12.o h12.R43 ?_
        refine V_bipush (pc := 33) (v := nI 6) dX12_keptBy_33 (by decide) ?_
        refine V_iload_n (pc := 35) dX12_keptBy_35 rfl ?_
        refine V_imulN (pc := 36) dX12_keptBy_36 ?_
        refine V_iload_n (pc := 37) dX12_keptBy_37 rfl ?_
        refine V_iaddN (pc := 38) dX12_keptBy_38 ?_
        refine V_ialoadE (pc := 39) dX12_keptBy_39 h12.A43 (by first | decide | omega) (by omega) (hn.2.1) ?_
        refine V_aload_n (pc := 40) dX12_keptBy_40 rfl ?_
        refine V_getR (pc := 41) 12 43 dX12_keptBy_41 flX12_116 (by decide) h12.o h12.R43 ?_
        refine V_bipush (pc := 44) (v := nI 6) dX12_keptBy_44 (by decide) ?_
        refine V_iload_n (pc := 46) dX12_keptBy_46 rfl ?_
        refine V_imulN (pc := 47) dX12_keptBy_47 ?_
        refine V_iload_n (pc := 48) dX12_keptBy_48 rfl ?_
        refine V_iaddN (pc := 49) dX12_keptBy_49 ?_
        refine V_ialoadE (pc := 50) dX12_keptBy_50 h12.A43 (by first | decide | omega) (by omega) (hnt.2.1) ?_
        refine V_icmp_leN (pc := 51) (tgt := 58) dX12_keptBy_51 (by decide) (by omega) (by omega) (fun c51 => ?_) (fun n51 => ?_)
        · skip
          first
          | (rw [if_neg (fun z => c21 ((pred1_some (by omega) (by omega)).mpr z.1)), pred1_s] at ih)
          | (rw [if_neg (fun z => by have := z.2; omega), pred1_s] at ih)
          refine V_iload_n (pc := 58) dX12_keptBy_58 rfl ?_
          refine V_istore_n (pc := 59) (ls' := [(0, _), (1, _), (2, _), (3, _)]) dX12_keptBy_59 (by decide) rfl ?_
          refine V_iinc1 (pc := 60) (ls' := [(0, _), (1, _), (2, _), (3, _)]) dX12_keptBy_60 rfl (by decide) rfl ?_
          refine V_goto (pc := 63) (tgt := 4) dX12_keptBy_63 (by decide) ?_
          exact ih
        · skip
          rw [if_pos ⟨(pred1_some (by omega) (by omega)).mp n21, Or.inr (by omega)⟩, pred1_s] at ih
          refine V_iload_n (pc := 54) dX12_keptBy_54 rfl ?_
          refine V_goto (pc := 55) (tgt := 59) dX12_keptBy_55 (by decide) ?_
          refine V_istore_n (pc := 59) (ls' := [(0, _), (1, _), (2, _), (3, _)]) dX12_keptBy_59 (by decide) rfl ?_
          refine V_iinc1 (pc := 60) (ls' := [(0, _), (1, _), (2, _), (3, _)]) dX12_keptBy_60 rfl (by decide) rfl ?_
          refine V_goto (pc := 63) (tgt := 4) dX12_keptBy_63 (by decide) ?_
          exact ih
end MJ
