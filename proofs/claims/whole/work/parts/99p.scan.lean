/-! THE READER: tokens -/
def pk (t : Nat → Nat) (n : Nat) : Nat → Nat | 0 => skp t n 0 | k + 1 => nxt t n (pk t n k)
def nmz (t : Nat → Nat) (n p : Nat) : Nat := if srt t n p = 2 then nm t n p else 0
theorem pk_s {t : Nat → Nat} {n k : Nat} : pk t n (k + 1) = nxt t n (pk t n k) := rfl
theorem skp_b {t : Nat → Nat} {n p : Nat} (hp : p < n) (h : t p = 32) : skp t n p = skp t n (p + 1) := by
  unfold skp
  rw [show n - p = (n - (p + 1)) + 1 from by omega, run1_t (P := fun j => decide (t j = 32)) (decide_eq_true h)]
theorem skp_o {t : Nat → Nat} {n p : Nat} (hp : p < n) (h : ¬ t p = 32) : skp t n p = p := by
  unfold skp
  rw [show n - p = (n - (p + 1)) + 1 from by omega, run1_f (P := fun j => decide (t j = 32)) (decide_eq_false h)]
theorem skp_n (t : Nat → Nat) (n : Nat) : skp t n n = n := by unfold skp; rw [Nat.sub_self, run1_0]
def SpI (I : IT) (o : Nat) (t : Nat → Nat) (n k : Nat) : Prop := I o 3 = nI k ∧ ∀ j, j < k → I (o + 1) j = nI (pk t n j) ∧ I (o + 2) j = nI (tc t n (pk t n j)) ∧ I (o + 3) j = nI (nmz t n (pk t n j)) ∧ pk t n j < n
/-- what scan leaves -/
def FrS5 (o : Nat) (I' I : IT) : Prop := (∀ a, a ≠ o → a ≠ o + 1 → a ≠ o + 2 → a ≠ o + 3 → I' a = I a) ∧ ∀ i, i ≠ 3 → I' o i = I o i
def ScM (I : IT) (o : Nat) (t : Nat → Nat) (n m : Nat) : Prop := I o 3 = nI m ∧ pk t n m = n ∧ m ≤ 400 ∧ (∀ j, j < m → pk t n j < n) ∧ (∀ j, j ≤ m → I (o + 1) j = nI (pk t n j) ∧ I (o + 2) j = nI (tc t n (pk t n j))) ∧ ∀ j, j < m → I (o + 3) j = nI (nmz t n (pk t n j))
theorem FrS5.rf {o : Nat} {I : IT} : FrS5 o I I := ⟨fun _ _ _ _ _ => rfl, fun _ _ => rfl⟩
theorem FrS5.up {o : Nat} {I' I : IT} {i : Nat} {v : Int32} {r : Nat} (h : FrS5 o I' I) (hr : r = o + 1 ∨ r = o + 2 ∨ r = o + 3) : FrS5 o (up2 I' r i v) I := ⟨fun a h1 h2 h3 h4 => by rw [up2_row (by omega)]; exact h.1 a h1 h2 h3 h4, fun j hj => by rw [up2_row (by omega)]; exact h.2 j hj⟩
theorem FrS5.u0 {o : Nat} {I' I : IT} {v : Int32} (h : FrS5 o I' I) : FrS5 o (up2 I' o 3 v) I := ⟨fun a h1 h2 h3 h4 => by rw [up2_row (by omega)]; exact h.1 a h1 h2 h3 h4, fun j hj => by rw [up2_nej hj]; exact h.2 j hj⟩
theorem FrS5.tr {o : Nat} {I2 I1 I : IT} (h : FrS5 o I2 I1) (g : FrS5 o I1 I) : FrS5 o I2 I := ⟨fun a h1 h2 h3 h4 => (h.1 a h1 h2 h3 h4).trans (g.1 a h1 h2 h3 h4), fun j hj => (h.2 j hj).trans (g.2 j hj)⟩
section R3
variable {E : EnT} {S : ST} {I : IT} {L : LT} {a o n : Nat} {t : Nat → Nat}
theorem TR.fr {I' : IT} (h : TR E S I a t n) (hr : I' a = I a) : TR E S I' a t n := ⟨h.1, fun i hi => by rw [hr]; exact h.2.1 i hi, h.2.2⟩
theorem SpI.st {W : IT} {k : Nat} (h : SpI I o t n k) (hp : pk t n k < n) (h0 : W o 3 = nI (k + 1)) (h1 : W (o + 1) k = nI (pk t n k)) (h2 : W (o + 2) k = nI (tc t n (pk t n k))) (h3 : W (o + 3) k = nI (nmz t n (pk t n k))) (hj : ∀ r j, 1 ≤ r → r ≤ 3 → j < k → W (o + r) j = I (o + r) j) : SpI W o t n (k + 1) := by
  refine ⟨h0, fun j hjk => ?_⟩
  by_cases e : j = k
  · subst e; exact ⟨h1, h2, h3, hp⟩
  · obtain ⟨a1, a2, a3, a4⟩ := h.2 j (by omega)
    exact ⟨(hj 1 j (by omega) (by omega) (by omega)).trans a1, (hj 2 j (by omega) (by omega) (by omega)).trans a2, (hj 3 j (by omega) (by omega) (by omega)).trans a3, a4⟩
theorem lp_scan {Q : QT} (h5 : Lay5 E S o) (hao : a < o) : ∀ (f : Nat) (I : IT) (i k : Nat), i + f ≥ n → i ≤ n → TR E S I a t n → SpI I o t n k → skp t n i = pk t n k → k ≤ i → (∀ (I' : IT) (k' : Nat), FrS5 o I' I → SpI I' o t n k' → pk t n k' = n → k' ≤ n → V E kX5_scan (rmOf 6 0 0) Q 0 0 S I' L 168 [(0, .ref o), (1, .ref a), (2, .int (nI n)), (3, .int (nI n))] []) → V E kX5_scan (rmOf 6 0 0) Q 0 0 S I L 7 [(0, .ref o), (1, .ref a), (2, .int (nI n)), (3, .int (nI i))] [] := by
  intro f
  induction f with
  | zero =>
    intro I i k hf hi hT hS hs hk hc
    obtain rfl : i = n := by omega
    have hn := hT.2.2.1
    refine V_iload_n (pc := 7) dX5_scan_7 rfl ?_
    refine V_iload_n (pc := 8) dX5_scan_8 rfl ?_
    refine V_icmp_geN (pc := 9) (tgt := 168) dX5_scan_9 (by decide) (by omega) (by omega) (fun c9 => ?_) (fun n9 => absurd n9 (by omega))
    exact hc I k FrS5.rf hS (by rw [← hs]; exact skp_n t i) hk
  | succ f ih =>
    intro I i k hf hi hT hS hs hk hc
    have hT' := hT
    obtain ⟨hA, ht, hn, h256⟩ := hT
    by_cases hin : i = n
    · subst hin
      refine V_iload_n (pc := 7) dX5_scan_7 rfl ?_
      refine V_iload_n (pc := 8) dX5_scan_8 rfl ?_
      refine V_icmp_geN (pc := 9) (tgt := 168) dX5_scan_9 (by decide) (by omega) (by omega) (fun c9 => ?_) (fun n9 => absurd n9 (by omega))
      exact hc I k FrS5.rf hS (by rw [← hs]; exact skp_n t i) hk
    have hb := h256 i (by omega)
    have h3 := hS.1
    have hia := ht i (by omega)
    by_cases hbl : t i = 32
    · skip
      refine V_iload_n (pc := 7) dX5_scan_7 rfl ?_
      refine V_iload_n (pc := 8) dX5_scan_8 rfl ?_
      refine V_icmp_geN (pc := 9) (tgt := 168) dX5_scan_9 (by decide) (by omega) (by omega) (fun c9 => absurd c9 (by omega)) (fun n9 => ?_)
      refine V_aload_n (pc := 12) dX5_scan_12 rfl ?_
      refine V_getIE (pc := 13) 5 3 dX5_scan_13 flX5_23 (by decide) h5.o (h3) ?_
      refine V_sipush (pc := 16) (v := nI 400) dX5_scan_16 (by decide) ?_
      refine V_icmp_geN (pc := 19) (tgt := 168) dX5_scan_19 (by decide) (by omega) (by omega) (fun c19 => absurd c19 (by omega)) (fun n19 => ?_)
      refine V_aload_n (pc := 22) dX5_scan_22 rfl ?_
      refine V_iload_n (pc := 23) dX5_scan_23 rfl ?_
      refine V_ialoadE (pc := 24) dX5_scan_24 (by assumption) (by first | decide | omega) (by omega) (hia) ?_
      refine V_bipush (pc := 25) (v := nI 32) dX5_scan_25 (by decide) ?_
      refine V_icmp_neN (pc := 27) (tgt := 33) dX5_scan_27 (by decide) (by omega) (by omega) (fun c27 => absurd c27 (by omega)) (fun n27 => ?_)
      refine V_goto (pc := 30) (tgt := 162) dX5_scan_30 (by decide) ?_
      refine V_iinc1 (pc := 162) (ls' := [(0, _), (1, _), (2, _), (3, _)]) dX5_scan_162 rfl (by decide) rfl ?_
      refine V_goto (pc := 165) (tgt := 7) dX5_scan_165 (by decide) ?_
      exact ih I (i + 1) k (by omega) (by omega) hT' hS (by rw [← hs]; exact (skp_b (by omega) hbl).symm) (by omega) hc
    · have hpk : pk t n k = i := by rw [← hs]; exact skp_o (by omega) hbl
      have hen := enT_le (t := t) (n := n) (p := i) (by omega)
      have e1 : max i (enT t n i - 1) + 1 = enT t n i := by omega
      have go : ∀ W : IT, FrS5 o W I → SpI W o t n (k + 1) → V E kX5_scan (rmOf 6 0 0) Q 0 0 S W L 7 [(0, .ref o), (1, .ref a), (2, .int (nI n)), (3, .int (nI (max i (enT t n i - 1) + 1)))] [] := by
        intro W hW hSW
        rw [e1]
        refine ih W _ (k + 1) (by omega) (by omega) (hT'.fr (hW.1 a (by omega) (by omega) (by omega) (by omega))) hSW (by rw [pk_s, hpk]; rfl) (by omega) (fun I' k' g1 g2 g3 g4 => hc I' k' (g1.tr hW) g2 g3 g4)
      have hTr : ∀ W : IT, W a = I a → TR E S W a t n := fun W hW => hT'.fr hW
      have hpn : i ≠ n := hin
      refine V_iload_n (pc := 7) dX5_scan_7 rfl ?_
      refine V_iload_n (pc := 8) dX5_scan_8 rfl ?_
      refine V_icmp_geN (pc := 9) (tgt := 168) dX5_scan_9 (by decide) (by omega) (by omega) (fun c9 => absurd c9 (by omega)) (fun n9 => ?_)
      refine V_aload_n (pc := 12) dX5_scan_12 rfl ?_
      refine V_getIE (pc := 13) 5 3 dX5_scan_13 flX5_23 (by decide) h5.o ((show _ = I o 3 from by first | rfl | (repeat rw [up2_row (by omega)])).trans h3) ?_
      refine V_sipush (pc := 16) (v := nI 400) dX5_scan_16 (by decide) ?_
      refine V_icmp_geN (pc := 19) (tgt := 168) dX5_scan_19 (by decide) (by omega) (by omega) (fun c19 => absurd c19 (by omega)) (fun n19 => ?_)
      refine V_aload_n (pc := 22) dX5_scan_22 rfl ?_
      refine V_iload_n (pc := 23) dX5_scan_23 rfl ?_
      refine V_ialoadE (pc := 24) dX5_scan_24 (by assumption) (by first | decide | omega) (by omega) (hia) ?_
      refine V_bipush (pc := 25) (v := nI 32) dX5_scan_25 (by decide) ?_
      refine V_icmp_neN (pc := 27) (tgt := 33) dX5_scan_27 (by decide) (by omega) (by omega) (fun c27 => ?_) (fun n27 => absurd n27 (by omega))
      refine V_aload_n (pc := 33) dX5_scan_33 rfl ?_
      refine V_iload_n (pc := 34) dX5_scan_34 rfl ?_
      refine V_iload_n (pc := 35) dX5_scan_35 rfl ?_
      refine V_callSd (pc := 36) (c_X5_endOfRow hT' (by omega)) dX5_scan_36 mlX5_81 mkX5_endOfRow rfl rfl ⟨Nat.le_of_ble_eq_true rfl, Nat.le_of_ble_eq_true rfl⟩ (Nat.le_of_ble_eq_true rfl) ⟨Nat.le_of_ble_eq_true rfl, Nat.le_of_ble_eq_true rfl⟩ ?_
      refine V_istore (pc := 39) (ls' := [(0, _), (1, _), (2, _), (3, _), (4, _)]) dX5_scan_39 (by decide) rfl ?_
      refine V_aload_n (pc := 41) dX5_scan_41 rfl ?_
      refine V_getR (pc := 42) 5 0 dX5_scan_42 flX5_13 (by decide) h5.o h5.R0 ?_
      refine V_aload_n (pc := 45) dX5_scan_45 rfl ?_
      refine V_getIE (pc := 46) 5 3 dX5_scan_46 flX5_23 (by decide) h5.o ((show _ = I o 3 from by first | rfl | (repeat rw [up2_row (by omega)])).trans h3) ?_
      refine V_iload_n (pc := 49) dX5_scan_49 rfl ?_
      refine V_iastore (pc := 50) dX5_scan_50 h5.A0 (by first | decide | omega) (by omega) ?_
      refine V_aload_n (pc := 51) dX5_scan_51 rfl ?_
      refine V_getR (pc := 52) 5 2 dX5_scan_52 flX5_20 (by decide) h5.o h5.R2 ?_
      refine V_aload_n (pc := 55) dX5_scan_55 rfl ?_
      refine V_getIE (pc := 56) 5 3 dX5_scan_56 flX5_23 (by decide) h5.o ((show _ = I o 3 from by first | rfl | (repeat rw [up2_row (by omega)])).trans h3) ?_
      refine V_iconst (pc := 59) (v := nI 0) dX5_scan_59 (by decide) ?_
      refine V_iastore (pc := 60) dX5_scan_60 h5.A2 (by first | decide | omega) (by omega) ?_
      refine V_aload_n (pc := 61) dX5_scan_61 rfl ?_
      refine V_iload_n (pc := 62) dX5_scan_62 rfl ?_
      refine V_ialoadE (pc := 63) dX5_scan_63 (by assumption) (by first | decide | omega) (by omega) ((show _ = I a i from by first | rfl | (repeat rw [up2_row (by omega)])).trans hia) ?_
      refine V_callSd (pc := 64) (c_X5_isLetter hb) dX5_scan_64 mlX5_85 mkX5_isLetter rfl rfl ⟨Nat.le_of_ble_eq_true rfl, Nat.le_of_ble_eq_true rfl⟩ (Nat.le_of_ble_eq_true rfl) ⟨Nat.le_of_ble_eq_true rfl, Nat.le_of_ble_eq_true rfl⟩ ?_
      refine V_if_eqB (pc := 67) (tgt := 89) dX5_scan_67 (by decide) (fun c67 => ?_) (fun n67 => ?_)
      · skip
        refine V_aload_n (pc := 89) dX5_scan_89 rfl ?_
        refine V_iload_n (pc := 90) dX5_scan_90 rfl ?_
        refine V_ialoadE (pc := 91) dX5_scan_91 (by assumption) (by first | decide | omega) (by omega) ((show _ = I a i from by first | rfl | (repeat rw [up2_row (by omega)])).trans hia) ?_
        refine V_callSd (pc := 92) (c_X5_isDigit hb) dX5_scan_92 mlX5_91 mkX5_isDigit rfl rfl ⟨Nat.le_of_ble_eq_true rfl, Nat.le_of_ble_eq_true rfl⟩ (Nat.le_of_ble_eq_true rfl) ⟨Nat.le_of_ble_eq_true rfl, Nat.le_of_ble_eq_true rfl⟩ ?_
        refine V_if_eqB (pc := 95) (tgt := 128) dX5_scan_95 (by decide) (fun c95 => ?_) (fun n95 => ?_)
        · skip
          have hs3 := srt_3 hpn c67 c95
          refine V_aload_n (pc := 128) dX5_scan_128 rfl ?_
          refine V_getR (pc := 129) 5 1 dX5_scan_129 flX5_17 (by decide) h5.o h5.R1 ?_
          refine V_aload_n (pc := 132) dX5_scan_132 rfl ?_
          refine V_getIE (pc := 133) 5 3 dX5_scan_133 flX5_23 (by decide) h5.o ((show _ = I o 3 from by first | rfl | (repeat rw [up2_row (by omega)])).trans h3) ?_
          refine V_bipush (pc := 136) (v := nI 100) dX5_scan_136 (by decide) ?_
          refine V_aload_n (pc := 138) dX5_scan_138 rfl ?_
          refine V_iload_n (pc := 139) dX5_scan_139 rfl ?_
          refine V_ialoadE (pc := 140) dX5_scan_140 (by assumption) (by first | decide | omega) (by omega) ((show _ = I a i from by first | rfl | (repeat rw [up2_row (by omega)])).trans hia) ?_
          refine V_iaddN (pc := 141) dX5_scan_141 ?_
          refine V_iastore (pc := 142) dX5_scan_142 h5.A1 (by first | decide | omega) (by omega) ?_
          refine V_aload_n (pc := 143) dX5_scan_143 rfl ?_
          refine V_dup (pc := 144) dX5_scan_144 rfl ?_
          refine V_getIE (pc := 145) 5 3 dX5_scan_145 flX5_23 (by decide) h5.o ((show _ = I o 3 from by first | rfl | (repeat rw [up2_row (by omega)])).trans h3) ?_
          refine V_iconst (pc := 148) (v := nI 1) dX5_scan_148 (by decide) ?_
          refine V_iaddN (pc := 149) dX5_scan_149 ?_
          refine V_putI (pc := 150) 5 3 dX5_scan_150 flX5_23 (by decide) (by decide) (Or.inl rfl) rfl rfl h5.o ?_
          refine V_iload_n (pc := 153) dX5_scan_153 rfl ?_
          refine V_iload (pc := 154) dX5_scan_154 rfl ?_
          refine V_iconst (pc := 156) (v := nI 1) dX5_scan_156 (by decide) ?_
          refine V_isubN (pc := 157) dX5_scan_157 (by omega) ?_
          refine V_mmaxN (pc := 158) dX5_scan_158 mlX5_97 (Nat.le_of_ble_eq_true rfl) (Nat.le_of_ble_eq_true rfl) ⟨Nat.le_of_ble_eq_true rfl, Nat.le_of_ble_eq_true rfl⟩ (by omega) (by omega) ?_
          refine V_istore_n (pc := 161) (ls' := [(0, _), (1, _), (2, _), (3, _), (4, _)]) dX5_scan_161 (by decide) rfl ?_
          refine V_iinc1 (pc := 162) (ls' := [(0, _), (1, _), (2, _), (3, _), (4, _)]) dX5_scan_162 rfl (by decide) rfl ?_
          refine V_goto (pc := 165) (tgt := 7) dX5_scan_165 (by decide) ?_
          refine V_loc [0, 1, 2, 3] rfl ?_
          refine go _ ?_ ?_
          · first | exact (((FrS5.rf.up (by omega)).up (by omega)).up (by omega)).u0 | exact ((((FrS5.rf.up (by omega)).up (by omega)).up (by omega)).up (by omega)).u0
          · refine hS.st (by omega) ?_ ?_ ?_ ?_ ?_
            · (repeat first | rw [up2_self] | rw [up2_row (by omega)] | rw [up2_nej (by omega)]); done
            · (repeat first | rw [up2_self] | rw [up2_row (by omega)] | rw [up2_nej (by omega)]); rw [hpk]
            · (repeat first | rw [up2_self] | rw [up2_row (by omega)] | rw [up2_nej (by omega)]); rw [hpk]; first | (rw [tc_1 hs1]; unfold wth; rw [if_pos hs1]) | (rw [tc_2 hs2]) | (rw [tc_3 hs3]) | fail
            · (repeat first | rw [up2_self] | rw [up2_row (by omega)] | rw [up2_nej (by omega)]); rw [hpk]; first | (rw [show nmz t n i = 0 from by unfold nmz; rw [if_neg (by omega)]]) | (unfold nmz nm wth; rw [if_pos hs2, if_neg (by omega), if_pos hs2]) | fail
            · intro r j g1 g2 g3
              repeat first | rw [up2_nej (by omega)] | rw [up2_row (by omega)] | rw [up2_ne (by omega)]
        · skip
          have hs2 := srt_2 hpn c67 n95
          have hl2 : ∀ j, i ≤ j → j < enT t n i → 48 ≤ t j ∧ t j ≤ 57 := fun j g1 g2 => of_decide_eq_true (run1_in (fun j => isD (t j)) (n - i) i j g1 (by rw [← enT_2 hs2]; exact g2))
          refine V_aload_n (pc := 98) dX5_scan_98 rfl ?_
          refine V_getR (pc := 99) 5 1 dX5_scan_99 flX5_17 (by decide) h5.o h5.R1 ?_
          refine V_aload_n (pc := 102) dX5_scan_102 rfl ?_
          refine V_getIE (pc := 103) 5 3 dX5_scan_103 flX5_23 (by decide) h5.o ((show _ = I o 3 from by first | rfl | (repeat rw [up2_row (by omega)])).trans h3) ?_
          refine V_bipush (pc := 106) (v := nI 91) dX5_scan_106 (by decide) ?_
          refine V_iastore (pc := 108) dX5_scan_108 h5.A1 (by first | decide | omega) (by omega) ?_
          refine V_aload_n (pc := 109) dX5_scan_109 rfl ?_
          refine V_getR (pc := 110) 5 2 dX5_scan_110 flX5_20 (by decide) h5.o h5.R2 ?_
          refine V_aload_n (pc := 113) dX5_scan_113 rfl ?_
          refine V_getIE (pc := 114) 5 3 dX5_scan_114 flX5_23 (by decide) h5.o ((show _ = I o 3 from by first | rfl | (repeat rw [up2_row (by omega)])).trans h3) ?_
          refine V_aload_n (pc := 117) dX5_scan_117 rfl ?_
          refine V_iload_n (pc := 118) dX5_scan_118 rfl ?_
          refine V_iload (pc := 119) dX5_scan_119 rfl ?_
          refine V_callSd (pc := 121) (c_X5_numberAt (hTr _ (by (repeat rw [up2_row (by omega)]))) (by omega) (by omega) hl2) dX5_scan_121 mlX5_94 mkX5_numberAt rfl rfl ⟨Nat.le_of_ble_eq_true rfl, Nat.le_of_ble_eq_true rfl⟩ (Nat.le_of_ble_eq_true rfl) ⟨Nat.le_of_ble_eq_true rfl, Nat.le_of_ble_eq_true rfl⟩ ?_
          refine V_iastore (pc := 124) dX5_scan_124 h5.A2 (by first | decide | omega) (by omega) ?_
          refine V_goto (pc := 125) (tgt := 143) dX5_scan_125 (by decide) ?_
          refine V_aload_n (pc := 143) dX5_scan_143 rfl ?_
          refine V_dup (pc := 144) dX5_scan_144 rfl ?_
          refine V_getIE (pc := 145) 5 3 dX5_scan_145 flX5_23 (by decide) h5.o ((show _ = I o 3 from by first | rfl | (repeat rw [up2_row (by omega)])).trans h3) ?_
          refine V_iconst (pc := 148) (v := nI 1) dX5_scan_148 (by decide) ?_
          refine V_iaddN (pc := 149) dX5_scan_149 ?_
          refine V_putI (pc := 150) 5 3 dX5_scan_150 flX5_23 (by decide) (by decide) (Or.inl rfl) rfl rfl h5.o ?_
          refine V_iload_n (pc := 153) dX5_scan_153 rfl ?_
          refine V_iload (pc := 154) dX5_scan_154 rfl ?_
          refine V_iconst (pc := 156) (v := nI 1) dX5_scan_156 (by decide) ?_
          refine V_isubN (pc := 157) dX5_scan_157 (by omega) ?_
          refine V_mmaxN (pc := 158) dX5_scan_158 mlX5_97 (Nat.le_of_ble_eq_true rfl) (Nat.le_of_ble_eq_true rfl) ⟨Nat.le_of_ble_eq_true rfl, Nat.le_of_ble_eq_true rfl⟩ (by omega) (by omega) ?_
          refine V_istore_n (pc := 161) (ls' := [(0, _), (1, _), (2, _), (3, _), (4, _)]) dX5_scan_161 (by decide) rfl ?_
          refine V_iinc1 (pc := 162) (ls' := [(0, _), (1, _), (2, _), (3, _), (4, _)]) dX5_scan_162 rfl (by decide) rfl ?_
          refine V_goto (pc := 165) (tgt := 7) dX5_scan_165 (by decide) ?_
          refine V_loc [0, 1, 2, 3] rfl ?_
          refine go _ ?_ ?_
          · first | exact (((FrS5.rf.up (by omega)).up (by omega)).up (by omega)).u0 | exact ((((FrS5.rf.up (by omega)).up (by omega)).up (by omega)).up (by omega)).u0
          · refine hS.st (by omega) ?_ ?_ ?_ ?_ ?_
            · (repeat first | rw [up2_self] | rw [up2_row (by omega)] | rw [up2_nej (by omega)]); done
            · (repeat first | rw [up2_self] | rw [up2_row (by omega)] | rw [up2_nej (by omega)]); rw [hpk]
            · (repeat first | rw [up2_self] | rw [up2_row (by omega)] | rw [up2_nej (by omega)]); rw [hpk]; first | (rw [tc_1 hs1]; unfold wth; rw [if_pos hs1]) | (rw [tc_2 hs2]) | (rw [tc_3 hs3]) | fail
            · (repeat first | rw [up2_self] | rw [up2_row (by omega)] | rw [up2_nej (by omega)]); rw [hpk]; first | (rw [show nmz t n i = 0 from by unfold nmz; rw [if_neg (by omega)]]) | (unfold nmz nm wth; rw [if_pos hs2, if_neg (by omega), if_pos hs2]) | fail
            · intro r j g1 g2 g3
              repeat first | rw [up2_nej (by omega)] | rw [up2_row (by omega)] | rw [up2_ne (by omega)]
      · skip
        have hs1 := srt_1 hpn n67
        have hl1 : ∀ j, i ≤ j → j < enT t n i → 97 ≤ t j ∧ t j ≤ 122 := fun j g1 g2 => of_decide_eq_true (run1_in (fun j => isL (t j)) (n - i) i j g1 (by rw [← enT_1 hs1]; exact g2))
        refine V_aload_n (pc := 70) dX5_scan_70 rfl ?_
        refine V_getR (pc := 71) 5 1 dX5_scan_71 flX5_17 (by decide) h5.o h5.R1 ?_
        refine V_aload_n (pc := 74) dX5_scan_74 rfl ?_
        refine V_getIE (pc := 75) 5 3 dX5_scan_75 flX5_23 (by decide) h5.o ((show _ = I o 3 from by first | rfl | (repeat rw [up2_row (by omega)])).trans h3) ?_
        refine V_aload_n (pc := 78) dX5_scan_78 rfl ?_
        refine V_iload_n (pc := 79) dX5_scan_79 rfl ?_
        refine V_iload (pc := 80) dX5_scan_80 rfl ?_
        refine V_callSd (pc := 82) (c_X5_wordAt (hTr _ (by (repeat rw [up2_row (by omega)]))) (by omega) (by omega) hl1) dX5_scan_82 mlX5_88 mkX5_wordAt rfl rfl ⟨Nat.le_of_ble_eq_true rfl, Nat.le_of_ble_eq_true rfl⟩ (Nat.le_of_ble_eq_true rfl) ⟨Nat.le_of_ble_eq_true rfl, Nat.le_of_ble_eq_true rfl⟩ ?_
        refine V_iastore (pc := 85) dX5_scan_85 h5.A1 (by first | decide | omega) (by omega) ?_
        refine V_goto (pc := 86) (tgt := 143) dX5_scan_86 (by decide) ?_
        refine V_aload_n (pc := 143) dX5_scan_143 rfl ?_
        refine V_dup (pc := 144) dX5_scan_144 rfl ?_
        refine V_getIE (pc := 145) 5 3 dX5_scan_145 flX5_23 (by decide) h5.o ((show _ = I o 3 from by first | rfl | (repeat rw [up2_row (by omega)])).trans h3) ?_
        refine V_iconst (pc := 148) (v := nI 1) dX5_scan_148 (by decide) ?_
        refine V_iaddN (pc := 149) dX5_scan_149 ?_
        refine V_putI (pc := 150) 5 3 dX5_scan_150 flX5_23 (by decide) (by decide) (Or.inl rfl) rfl rfl h5.o ?_
        refine V_iload_n (pc := 153) dX5_scan_153 rfl ?_
        refine V_iload (pc := 154) dX5_scan_154 rfl ?_
        refine V_iconst (pc := 156) (v := nI 1) dX5_scan_156 (by decide) ?_
        refine V_isubN (pc := 157) dX5_scan_157 (by omega) ?_
        refine V_mmaxN (pc := 158) dX5_scan_158 mlX5_97 (Nat.le_of_ble_eq_true rfl) (Nat.le_of_ble_eq_true rfl) ⟨Nat.le_of_ble_eq_true rfl, Nat.le_of_ble_eq_true rfl⟩ (by omega) (by omega) ?_
        refine V_istore_n (pc := 161) (ls' := [(0, _), (1, _), (2, _), (3, _), (4, _)]) dX5_scan_161 (by decide) rfl ?_
        refine V_iinc1 (pc := 162) (ls' := [(0, _), (1, _), (2, _), (3, _), (4, _)]) dX5_scan_162 rfl (by decide) rfl ?_
        refine V_goto (pc := 165) (tgt := 7) dX5_scan_165 (by decide) ?_
        refine V_loc [0, 1, 2, 3] rfl ?_
        refine go _ ?_ ?_
        · first | exact (((FrS5.rf.up (by omega)).up (by omega)).up (by omega)).u0 | exact ((((FrS5.rf.up (by omega)).up (by omega)).up (by omega)).up (by omega)).u0
        · refine hS.st (by omega) ?_ ?_ ?_ ?_ ?_
          · (repeat first | rw [up2_self] | rw [up2_row (by omega)] | rw [up2_nej (by omega)]); done
          · (repeat first | rw [up2_self] | rw [up2_row (by omega)] | rw [up2_nej (by omega)]); rw [hpk]
          · (repeat first | rw [up2_self] | rw [up2_row (by omega)] | rw [up2_nej (by omega)]); rw [hpk]; first | (rw [tc_1 hs1]; unfold wth; rw [if_pos hs1]) | (rw [tc_2 hs2]) | (rw [tc_3 hs3]) | fail
          · (repeat first | rw [up2_self] | rw [up2_row (by omega)] | rw [up2_nej (by omega)]); rw [hpk]; first | (rw [show nmz t n i = 0 from by unfold nmz; rw [if_neg (by omega)]]) | (unfold nmz nm wth; rw [if_pos hs2, if_neg (by omega), if_pos hs2]) | fail
          · intro r j g1 g2 g3
            repeat first | rw [up2_nej (by omega)] | rw [up2_row (by omega)] | rw [up2_ne (by omega)]
theorem c_X5_scan (h5 : Lay5 E S o) (hao : a < o) (hT : TR E S I a t n) : C E kX5_scan 6 0 0 [.ref o, .ref a, .int (nI n)] S I L (fun r S' I' L' => r = none ∧ S = S' ∧ L = L' ∧ FrS5 o I' I ∧ ∃ m, ScM I' o t n m) := by
  have hn := hT.2.2.1
  refine C_of (by decide) (Nat.le_of_ble_eq_true rfl) ?_
  refine V_aload_n (pc := 0) dX5_scan_0 rfl ?_
  refine V_iconst (pc := 1) (v := nI 0) dX5_scan_1 (by decide) ?_
  refine V_putI (pc := 2) 5 3 dX5_scan_2 flX5_23 (by decide) (by decide) (Or.inl rfl) rfl rfl h5.o ?_
  refine V_iconst (pc := 5) (v := nI 0) dX5_scan_5 (by decide) ?_
  refine V_istore_n (pc := 6) (ls' := [(0, _), (1, _), (2, _), (3, _)]) dX5_scan_6 (by decide) rfl ?_
  refine lp_scan h5 hao n _ 0 0 (by omega) (by omega) (hT.fr (up2_row (by omega))) ⟨up2_self, fun j hj => absurd hj (by omega)⟩ rfl (Nat.le_refl 0) ?_
  intro I' m hF hS hpm hm
  have h3 := hS.1
  refine V_aload_n (pc := 168) dX5_scan_168 rfl ?_
  refine V_getR (pc := 169) 5 0 dX5_scan_169 flX5_13 (by decide) h5.o h5.R0 ?_
  refine V_aload_n (pc := 172) dX5_scan_172 rfl ?_
  refine V_getIE (pc := 173) 5 3 dX5_scan_173 flX5_23 (by decide) h5.o ((show _ = I' o 3 from by first | rfl | (repeat rw [up2_row (by omega)])).trans h3) ?_
  refine V_iload_n (pc := 176) dX5_scan_176 rfl ?_
  refine V_iastore (pc := 177) dX5_scan_177 h5.A0 (by first | decide | omega) (by omega) ?_
  refine V_aload_n (pc := 178) dX5_scan_178 rfl ?_
  refine V_getR (pc := 179) 5 1 dX5_scan_179 flX5_17 (by decide) h5.o h5.R1 ?_
  refine V_aload_n (pc := 182) dX5_scan_182 rfl ?_
  refine V_getIE (pc := 183) 5 3 dX5_scan_183 flX5_23 (by decide) h5.o ((show _ = I' o 3 from by first | rfl | (repeat rw [up2_row (by omega)])).trans h3) ?_
  refine V_bipush (pc := 186) (v := nI 92) dX5_scan_186 (by decide) ?_
  refine V_iastore (pc := 188) dX5_scan_188 h5.A1 (by first | decide | omega) (by omega) ?_
  refine V_vret (pc := 189) dX5_scan_189 rfl (by first | decide | omega) (by first | decide | omega) ?_
  refine ⟨rfl, rfl, rfl, (((hF.tr FrS5.rf.u0).up (by omega)).up (by omega)), m, ?_, hpm, by omega, fun j hj => (hS.2 j hj).2.2.2, fun j hj => ?_, fun j hj => ?_⟩
  · (repeat rw [up2_row (by omega)]); exact h3
  · by_cases e : j = m
    · subst e; rw [hpm, tc_end.mpr rfl]; exact ⟨by (repeat first | rw [up2_self] | rw [up2_row (by omega)] | rw [up2_nej (by omega)]), by (repeat first | rw [up2_self] | rw [up2_row (by omega)] | rw [up2_nej (by omega)])⟩
    · exact ⟨by (repeat first | rw [up2_row (by omega)] | rw [up2_nej (by omega)]); exact (hS.2 j (by omega)).1, by (repeat first | rw [up2_row (by omega)] | rw [up2_nej (by omega)]); exact (hS.2 j (by omega)).2.1⟩
  · (repeat first | rw [up2_row (by omega)] | rw [up2_nej (by omega)]); exact (hS.2 j hj).2.2.1
end R3
