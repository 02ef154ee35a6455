/-! THE READER: how many times -/
def rdT (t : Nat → Nat) (n : Nat) (od : Bool) (p l : Nat) : Nat × Nat × Option Nat := if od = true then oT t n p l else (p, l, some 1)
def FrW (o : Nat) (I' I : IT) : Prop := (∀ a, a ≠ o → a ≠ o + 5 → I' a = I a) ∧ ∀ i, i ≠ 4 → I' o i = I o i
section SA
variable {E : EnT} {S : ST} {L : LT} {o n m cl : Nat} {t : Nat → Nat} {od : Bool}
theorem FrW.rf {I : IT} : FrW o I I := ⟨fun _ _ _ => rfl, fun _ _ => rfl⟩
theorem FrW.u {I' I : IT} {v : Int32} (h : FrW o I' I) : FrW o (up2 I' o 4 v) I := ⟨fun a h1 h2 => by rw [up2_row h1]; exact h.1 a h1 h2, fun i hi => by rw [up2_nej hi]; exact h.2 i hi⟩
theorem FrW.u5 {I' I : IT} {i : Nat} {v : Int32} (h : FrW o I' I) : FrW o (up2 I' (o + 5) i v) I := ⟨fun a h1 h2 => by rw [up2_row h2]; exact h.1 a h1 h2, fun i hi => by rw [up2_row (by omega)]; exact h.2 i hi⟩
theorem rc_tm {k l : Nat} {c : CT} {I : IT} {v2 : Int32} (h5 : Lay5 E S o) (hb : ∀ i, i < n → t i < 256) (hcl : cl < 12) (hR : RS I o t n m od k l c) (h51 : I (o + 5) cl = nI 1) {post : Option Value → ST → IT → LT → Prop}
    (hN : (rdT t n od (pk t n k) l).2.2 = none → ∀ (I' : IT) (k' : Nat), FrW o I' I → k' ≤ m → I' o 4 = nI k' → pk t n k' = (rdT t n od (pk t n k) l).1 → post (some (.int (b2i false))) S I' L)
    (hY : ∀ (tm : Nat) (I' : IT) (k' : Nat), (rdT t n od (pk t n k) l).2.2 = some tm → FrW o I' I → RS I' o t n m od k' l c → pk t n k' = (rdT t n od (pk t n k) l).1 → k ≤ k' → I' (o + 5) cl = nI tm → (∀ z, z ≠ cl → I' (o + 5) z = I (o + 5) z) → tm ≤ 20 → V E kX5_readClause (rmOf 31 0 0) (QM E post 0 0) 0 0 S I' L 169 [(0, .ref o), (1, .int (nI cl)), (2, .int v2)] []) : V E kX5_readClause (rmOf 31 0 0) (QM E post 0 0) 0 0 S I L 83 [(0, .ref o), (1, .int (nI cl)), (2, .int v2)] [] := by
  have h400 := hR.1.2.2.1
  have h4 := hR.2.2.1
  have h6 := hR.2.2.2.2.1
  have htk := hR.tk
  have hkm := hR.2.1
  have hlt := tc_lt (n := n) hb (hR.1.pn hkm)
  cases od with
  | false =>
    have key := hY 1 I k rfl FrW.rf hR rfl (Nat.le_refl k) h51 (fun _ _ => rfl) (by omega)
    refine V_aload_n (pc := 83) dX5_readClause_83 rfl ?_
    refine V_getIE (pc := 84) 5 6 dX5_readClause_84 flX5_33 (by decide) h5.o (h6) ?_
    refine V_if_eqB (pc := 87) (tgt := 169) dX5_readClause_87 (by decide) (fun c87 => ?_) (fun n87 => absurd n87 (by decide))
    exact key
  | true =>
    have e1 : rdT t n true (pk t n k) l = oT t n (pk t n k) l := rfl
    rw [e1] at hN hY
    unfold oT at hN hY
    by_cases h0 : tc t n (pk t n k) = 4
    · rw [if_pos h0] at hN hY
      have hk := hR.lt (by omega)
      have hR1 := hR.go hk
      have h41 := hR1.2.2.1
      have htk1 := hR1.tk
      have hlt1 := tc_lt (n := n) hb (hR1.1.pn hR1.2.1)
      rw [show nxt t n (pk t n k) = pk t n (k + 1) from rfl] at hN hY
      by_cases h91 : tc t n (pk t n (k + 1)) = 91
      · have hnu := hR1.nu h91
        have hk1 := hR1.lt (by omega)
        have hnm : nm t n (pk t n (k + 1)) ≤ 1001 := by unfold nm; omega
        by_cases h20 : 1 ≤ nm t n (pk t n (k + 1)) ∧ nm t n (pk t n (k + 1)) ≤ 20
        · rw [if_pos ⟨h91, h20⟩] at hN hY
          have hR2 := hR1.row (r := o + 5) (i := cl) (v := nI (nm t n (pk t n (k + 1)))) (by omega)
          have key := hY _ _ (k + 1 + 1) rfl ((FrW.rf.u (v := nI (k + 1))).u5 (i := cl) (v := nI (nm t n (pk t n (k + 1))))).u (hR2.go hk1) rfl (by omega) ((up2_ne (by omega)).trans up2_self) (fun z hz => by rw [up2_ne (by omega), up2_nej hz, up2_ne (by omega)]) h20.2
          refine V_aload_n (pc := 83) dX5_readClause_83 rfl ?_
          refine V_getIE (pc := 84) 5 6 dX5_readClause_84 flX5_33 (by decide) h5.o (h6) ?_
          refine V_if_eqB (pc := 87) (tgt := 169) dX5_readClause_87 (by decide) (fun c87 => absurd c87 (by decide)) (fun n87 => ?_)
          refine V_aload_n (pc := 90) dX5_readClause_90 rfl ?_
          refine V_getR (pc := 91) 5 1 dX5_readClause_91 flX5_17 (by decide) h5.o h5.R1 ?_
          refine V_aload_n (pc := 94) dX5_readClause_94 rfl ?_
          refine V_getIE (pc := 95) 5 4 dX5_readClause_95 flX5_27 (by decide) h5.o (h4) ?_
          refine V_ialoadE (pc := 98) dX5_readClause_98 h5.A1 (by first | decide | omega) (by omega) (htk) ?_
          refine V_iconst (pc := 99) (v := nI 4) dX5_readClause_99 (by decide) ?_
          refine V_icmp_neN (pc := 100) (tgt := 169) dX5_readClause_100 (by decide) (by omega) (by omega) (fun c100 => absurd c100 (by omega)) (fun n100 => ?_)
          refine V_aload_n (pc := 103) dX5_readClause_103 rfl ?_
          refine V_callVn (pc := 104) (ci := 5) (c_X5_goOn h5 hR hk) dX5_readClause_104 mlX5_78 mkX5_goOn rfl rfl h5.o ⟨by decide, rfl⟩ ⟨Nat.le_of_ble_eq_true rfl, Nat.le_of_ble_eq_true rfl⟩ (Nat.le_of_ble_eq_true rfl) ⟨Nat.le_of_ble_eq_true rfl, Nat.le_of_ble_eq_true rfl⟩ ?_
          refine V_aload_n (pc := 107) dX5_readClause_107 rfl ?_
          refine V_getR (pc := 108) 5 1 dX5_readClause_108 flX5_17 (by decide) h5.o h5.R1 ?_
          refine V_aload_n (pc := 111) dX5_readClause_111 rfl ?_
          refine V_getIE (pc := 112) 5 4 dX5_readClause_112 flX5_27 (by decide) h5.o (h41) ?_
          refine V_ialoadE (pc := 115) dX5_readClause_115 h5.A1 (by first | decide | omega) (by omega) (htk1) ?_
          refine V_bipush (pc := 116) (v := nI 91) dX5_readClause_116 (by decide) ?_
          refine V_icmp_neN (pc := 118) (tgt := 148) dX5_readClause_118 (by decide) (by omega) (by omega) (fun c118 => absurd c118 (by omega)) (fun n118 => ?_)
          refine V_aload_n (pc := 121) dX5_readClause_121 rfl ?_
          refine V_getR (pc := 122) 5 2 dX5_readClause_122 flX5_20 (by decide) h5.o h5.R2 ?_
          refine V_aload_n (pc := 125) dX5_readClause_125 rfl ?_
          refine V_getIE (pc := 126) 5 4 dX5_readClause_126 flX5_27 (by decide) h5.o (h41) ?_
          refine V_ialoadE (pc := 129) dX5_readClause_129 h5.A2 (by first | decide | omega) (by omega) (hnu) ?_
          refine V_iconst (pc := 130) (v := nI 1) dX5_readClause_130 (by decide) ?_
          refine V_icmp_ltN (pc := 131) (tgt := 148) dX5_readClause_131 (by decide) (by omega) (by omega) (fun c131 => absurd c131 (by omega)) (fun n131 => ?_)
          refine V_aload_n (pc := 134) dX5_readClause_134 rfl ?_
          refine V_getR (pc := 135) 5 2 dX5_readClause_135 flX5_20 (by decide) h5.o h5.R2 ?_
          refine V_aload_n (pc := 138) dX5_readClause_138 rfl ?_
          refine V_getIE (pc := 139) 5 4 dX5_readClause_139 flX5_27 (by decide) h5.o (h41) ?_
          refine V_ialoadE (pc := 142) dX5_readClause_142 h5.A2 (by first | decide | omega) (by omega) (hnu) ?_
          refine V_bipush (pc := 143) (v := nI 20) dX5_readClause_143 (by decide) ?_
          refine V_icmp_leN (pc := 145) (tgt := 150) dX5_readClause_145 (by decide) (by omega) (by omega) (fun c145 => ?_) (fun n145 => absurd n145 (by omega))
          refine V_aload_n (pc := 150) dX5_readClause_150 rfl ?_
          refine V_getR (pc := 151) 5 8 dX5_readClause_151 flX5_40 (by decide) h5.o h5.R8 ?_
          refine V_iload_n (pc := 154) dX5_readClause_154 rfl ?_
          refine V_aload_n (pc := 155) dX5_readClause_155 rfl ?_
          refine V_getR (pc := 156) 5 2 dX5_readClause_156 flX5_20 (by decide) h5.o h5.R2 ?_
          refine V_aload_n (pc := 159) dX5_readClause_159 rfl ?_
          refine V_getIE (pc := 160) 5 4 dX5_readClause_160 flX5_27 (by decide) h5.o (h41) ?_
          refine V_ialoadE (pc := 163) dX5_readClause_163 h5.A2 (by first | decide | omega) (by omega) (hnu) ?_
          refine V_iastore (pc := 164) dX5_readClause_164 h5.A8 (by first | decide | omega) (by omega) ?_
          refine V_aload_n (pc := 165) dX5_readClause_165 rfl ?_
          refine V_callVn (pc := 166) (ci := 5) (c_X5_goOn h5 hR2 hk1) dX5_readClause_166 mlX5_78 mkX5_goOn rfl rfl h5.o ⟨by decide, rfl⟩ ⟨Nat.le_of_ble_eq_true rfl, Nat.le_of_ble_eq_true rfl⟩ (Nat.le_of_ble_eq_true rfl) ⟨Nat.le_of_ble_eq_true rfl, Nat.le_of_ble_eq_true rfl⟩ ?_
          exact key
        · rw [if_neg (fun z => h20 z.2)] at hN hY
          have key := hN rfl _ (k + 1) (FrW.rf.u (v := nI (k + 1))) hk h41 rfl
          refine V_aload_n (pc := 83) dX5_readClause_83 rfl ?_
          refine V_getIE (pc := 84) 5 6 dX5_readClause_84 flX5_33 (by decide) h5.o (h6) ?_
          refine V_if_eqB (pc := 87) (tgt := 169) dX5_readClause_87 (by decide) (fun c87 => absurd c87 (by decide)) (fun n87 => ?_)
          refine V_aload_n (pc := 90) dX5_readClause_90 rfl ?_
          refine V_getR (pc := 91) 5 1 dX5_readClause_91 flX5_17 (by decide) h5.o h5.R1 ?_
          refine V_aload_n (pc := 94) dX5_readClause_94 rfl ?_
          refine V_getIE (pc := 95) 5 4 dX5_readClause_95 flX5_27 (by decide) h5.o (h4) ?_
          refine V_ialoadE (pc := 98) dX5_readClause_98 h5.A1 (by first | decide | omega) (by omega) (htk) ?_
          refine V_iconst (pc := 99) (v := nI 4) dX5_readClause_99 (by decide) ?_
          refine V_icmp_neN (pc := 100) (tgt := 169) dX5_readClause_100 (by decide) (by omega) (by omega) (fun c100 => absurd c100 (by omega)) (fun n100 => ?_)
          refine V_aload_n (pc := 103) dX5_readClause_103 rfl ?_
          refine V_callVn (pc := 104) (ci := 5) (c_X5_goOn h5 hR hk) dX5_readClause_104 mlX5_78 mkX5_goOn rfl rfl h5.o ⟨by decide, rfl⟩ ⟨Nat.le_of_ble_eq_true rfl, Nat.le_of_ble_eq_true rfl⟩ (Nat.le_of_ble_eq_true rfl) ⟨Nat.le_of_ble_eq_true rfl, Nat.le_of_ble_eq_true rfl⟩ ?_
          refine V_aload_n (pc := 107) dX5_readClause_107 rfl ?_
          refine V_getR (pc := 108) 5 1 dX5_readClause_108 flX5_17 (by decide) h5.o h5.R1 ?_
          refine V_aload_n (pc := 111) dX5_readClause_111 rfl ?_
          refine V_getIE (pc := 112) 5 4 dX5_readClause_112 flX5_27 (by decide) h5.o (h41) ?_
          refine V_ialoadE (pc := 115) dX5_readClause_115 h5.A1 (by first | decide | omega) (by omega) (htk1) ?_
          refine V_bipush (pc := 116) (v := nI 91) dX5_readClause_116 (by decide) ?_
          refine V_icmp_neN (pc := 118) (tgt := 148) dX5_readClause_118 (by decide) (by omega) (by omega) (fun c118 => absurd c118 (by omega)) (fun n118 => ?_)
          refine V_aload_n (pc := 121) dX5_readClause_121 rfl ?_
          refine V_getR (pc := 122) 5 2 dX5_readClause_122 flX5_20 (by decide) h5.o h5.R2 ?_
          refine V_aload_n (pc := 125) dX5_readClause_125 rfl ?_
          refine V_getIE (pc := 126) 5 4 dX5_readClause_126 flX5_27 (by decide) h5.o (h41) ?_
          refine V_ialoadE (pc := 129) dX5_readClause_129 h5.A2 (by first | decide | omega) (by omega) (hnu) ?_
          refine V_iconst (pc := 130) (v := nI 1) dX5_readClause_130 (by decide) ?_
          refine V_icmp_ltN (pc := 131) (tgt := 148) dX5_readClause_131 (by decide) (by omega) (by omega) (fun c131 => ?_) (fun n131 => ?_)
          · skip
            refine V_iconst (pc := 148) (v := nI 0) dX5_readClause_148 (by decide) ?_
            refine V_zretB (pc := 149) (p := false) dX5_readClause_149 rfl rfl (by first | decide | omega) (by first | decide | omega) ?_
            exact key
          · skip
            refine V_aload_n (pc := 134) dX5_readClause_134 rfl ?_
            refine V_getR (pc := 135) 5 2 dX5_readClause_135 flX5_20 (by decide) h5.o h5.R2 ?_
            refine V_aload_n (pc := 138) dX5_readClause_138 rfl ?_
            refine V_getIE (pc := 139) 5 4 dX5_readClause_139 flX5_27 (by decide) h5.o (h41) ?_
            refine V_ialoadE (pc := 142) dX5_readClause_142 h5.A2 (by first | decide | omega) (by omega) (hnu) ?_
            refine V_bipush (pc := 143) (v := nI 20) dX5_readClause_143 (by decide) ?_
            refine V_icmp_leN (pc := 145) (tgt := 150) dX5_readClause_145 (by decide) (by omega) (by omega) (fun c145 => absurd c145 (by omega)) (fun n145 => ?_)
            refine V_iconst (pc := 148) (v := nI 0) dX5_readClause_148 (by decide) ?_
            refine V_zretB (pc := 149) (p := false) dX5_readClause_149 rfl rfl (by first | decide | omega) (by first | decide | omega) ?_
            exact key
      · rw [if_neg (fun z => h91 z.1)] at hN hY
        have key := hN rfl _ (k + 1) (FrW.rf.u (v := nI (k + 1))) hk h41 rfl
        refine V_aload_n (pc := 83) dX5_readClause_83 rfl ?_
        refine V_getIE (pc := 84) 5 6 dX5_readClause_84 flX5_33 (by decide) h5.o (h6) ?_
        refine V_if_eqB (pc := 87) (tgt := 169) dX5_readClause_87 (by decide) (fun c87 => absurd c87 (by decide)) (fun n87 => ?_)
        refine V_aload_n (pc := 90) dX5_readClause_90 rfl ?_
        refine V_getR (pc := 91) 5 1 dX5_readClause_91 flX5_17 (by decide) h5.o h5.R1 ?_
        refine V_aload_n (pc := 94) dX5_readClause_94 rfl ?_
        refine V_getIE (pc := 95) 5 4 dX5_readClause_95 flX5_27 (by decide) h5.o (h4) ?_
        refine V_ialoadE (pc := 98) dX5_readClause_98 h5.A1 (by first | decide | omega) (by omega) (htk) ?_
        refine V_iconst (pc := 99) (v := nI 4) dX5_readClause_99 (by decide) ?_
        refine V_icmp_neN (pc := 100) (tgt := 169) dX5_readClause_100 (by decide) (by omega) (by omega) (fun c100 => absurd c100 (by omega)) (fun n100 => ?_)
        refine V_aload_n (pc := 103) dX5_readClause_103 rfl ?_
        refine V_callVn (pc := 104) (ci := 5) (c_X5_goOn h5 hR hk) dX5_readClause_104 mlX5_78 mkX5_goOn rfl rfl h5.o ⟨by decide, rfl⟩ ⟨Nat.le_of_ble_eq_true rfl, Nat.le_of_ble_eq_true rfl⟩ (Nat.le_of_ble_eq_true rfl) ⟨Nat.le_of_ble_eq_true rfl, Nat.le_of_ble_eq_true rfl⟩ ?_
        refine V_aload_n (pc := 107) dX5_readClause_107 rfl ?_
        refine V_getR (pc := 108) 5 1 dX5_readClause_108 flX5_17 (by decide) h5.o h5.R1 ?_
        refine V_aload_n (pc := 111) dX5_readClause_111 rfl ?_
        refine V_getIE (pc := 112) 5 4 dX5_readClause_112 flX5_27 (by decide) h5.o (h41) ?_
        refine V_ialoadE (pc := 115) dX5_readClause_115 h5.A1 (by first | decide | omega) (by omega) (htk1) ?_
        refine V_bipush (pc := 116) (v := nI 91) dX5_readClause_116 (by decide) ?_
        refine V_icmp_neN (pc := 118) (tgt := 148) dX5_readClause_118 (by decide) (by omega) (by omega) (fun c118 => ?_) (fun n118 => absurd n118 (by omega))
        refine V_iconst (pc := 148) (v := nI 0) dX5_readClause_148 (by decide) ?_
        refine V_zretB (pc := 149) (p := false) dX5_readClause_149 rfl rfl (by first | decide | omega) (by first | decide | omega) ?_
        exact key
    · rw [if_neg h0] at hN hY
      have key := hY 1 I k rfl FrW.rf hR rfl (Nat.le_refl k) h51 (fun _ _ => rfl) (by omega)
      refine V_aload_n (pc := 83) dX5_readClause_83 rfl ?_
      refine V_getIE (pc := 84) 5 6 dX5_readClause_84 flX5_33 (by decide) h5.o (h6) ?_
      refine V_if_eqB (pc := 87) (tgt := 169) dX5_readClause_87 (by decide) (fun c87 => absurd c87 (by decide)) (fun n87 => ?_)
      refine V_aload_n (pc := 90) dX5_readClause_90 rfl ?_
      refine V_getR (pc := 91) 5 1 dX5_readClause_91 flX5_17 (by decide) h5.o h5.R1 ?_
      refine V_aload_n (pc := 94) dX5_readClause_94 rfl ?_
      refine V_getIE (pc := 95) 5 4 dX5_readClause_95 flX5_27 (by decide) h5.o (h4) ?_
      refine V_ialoadE (pc := 98) dX5_readClause_98 h5.A1 (by first | decide | omega) (by omega) (htk) ?_
      refine V_iconst (pc := 99) (v := nI 4) dX5_readClause_99 (by decide) ?_
      refine V_icmp_neN (pc := 100) (tgt := 169) dX5_readClause_100 (by decide) (by omega) (by omega) (fun c100 => ?_) (fun n100 => absurd n100 (by omega))
      exact key
end SA
