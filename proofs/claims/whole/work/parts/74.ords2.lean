/-! THE REFERENCE: orders, II -/
def Sv (o : Nat) (I J : IT) : Prop := (∀ i, i < 75 → I (o + 5) (1275 + i) = J (o + 2) (5 + i)) ∧ (∀ i, i < 1200 → I (o + 7) i = J (o + 5) i) ∧ ∀ i, i < 16 → I (o + 8) i = J (o + 6) i
theorem Sv.o {o : Nat} {I I' J : IT} {L L' : LT} (h : Sv o I J) (f : FrO o I' I L' L) : Sv o I' J := ⟨fun i hi => (f.2.2.2 _ (by omega)).trans (h.1 i hi), fun i hi => by rw [f.2.1 (o + 7) (by omega)]; exact h.2.1 i hi, fun i hi => by rw [f.2.1 (o + 8) (by omega)]; exact h.2.2 i hi⟩
theorem MR.gb {o : Nat} {I I' J : IT} {L LJ : LT} {A B : AT} (h : MR o I L A) (hS : SmO A B) (hJ : MR o J LJ B) (hw : wfA B) (e : ∀ a, a ≠ o + 2 → a ≠ o + 5 → a ≠ o + 6 → a ≠ o → I' a = I a) (f : ∀ i, i ≠ 8 → I' o i = I o i) (f8 : I' o 8 = nI (aun B).1) (r1 : ∀ i, 5 ≤ i → i < 80 → I' (o + 2) i = J (o + 2) i) (r2 : ∀ i, (i < 5 ∨ 80 ≤ i) → I' (o + 2) i = I (o + 2) i) (r5 : ∀ i, i < 1200 → I' (o + 5) i = J (o + 5) i) (r6 : ∀ i, i < 16 → I' (o + 6) i = J (o + 6) i) : MR o I' L B := by
  obtain ⟨h1, h2, h3, h4, h5, h6, h7, h8, h9⟩ := h
  obtain ⟨s1, s2, s3⟩ := hS
  have hun := hw.2.2.1
  have e2 : alw B = alw A := s2.symm
  have e3 : aim B = aim A := by show B.2.2.2.1 = A.2.2.2.1; rw [s3]
  have e4 : atp B = atp A := by show B.2.2.2.2.1 = A.2.2.2.2.1; rw [s3]
  have e5 : ax B = ax A := by show B.2.2.2.2.2.1 = A.2.2.2.2.2.1; rw [s3]
  have e6 : adr B = adr A := by show B.2.2.2.2.2.2 = A.2.2.2.2.2.2; rw [s3]
  refine ⟨fun i hi hw => ?_, fun l hl => ?_, ⟨f8, fun k hk => ⟨fun i a1 a2 a3 => ?_, ?_⟩⟩, ?_, ?_, ?_, ?_, (f 20 (by omega)).trans h8, h9⟩
  · by_cases hr : 5 ≤ i ∧ i < 80
    · rw [r1 i hr.1 hr.2]; exact hJ.row i hi hw
    · rw [r2 i (by omega), h1 i hi (fun z => by omega)]
      unfold enc
      rw [s1 i (by omega)]
  · rw [e2]
    have hl : l < aq B 3 := hl
    rw [← s1 3 (by omega)] at hl
    exact (h2 l hl).cg fun i a1 a2 => r2 i (by omega)
  · rw [r5 _ (by omega)]; exact (hJ.und.2 k hk).1 i a1 a2 a3
  · rw [r6 _ (by omega)]; exact (hJ.und.2 k hk).2
  · unfold ImgM at h4 ⊢; rw [e3, e (o + 3) (by omega) (by omega) (by omega) (by omega), e (o + 4) (by omega) (by omega) (by omega) (by omega)]; exact h4
  · unfold TapM at h5 ⊢; rw [e4, e (o + 9) (by omega) (by omega) (by omega) (by omega), f 13 (by omega)]; exact h5
  · unfold XM at h6 ⊢; rw [e5, e (o + 1) (by omega) (by omega) (by omega) (by omega), f 1 (by omega), f 11 (by omega), f 18 (by omega), f 57 (by omega)]; exact h6
  · unfold DrM at h7 ⊢; rw [e6, e (o + 35) (by omega) (by omega) (by omega) (by omega), f 61 (by omega)]; exact h7
/-- a row's beginning out of another's -/
def Wc (a b : Nat) (I2 I : IT) (j : Nat) : Prop := (∀ x, x ≠ a → I2 x = I x) ∧ (∀ i, j ≤ i → I2 a i = I a i) ∧ ∀ i, i < j → I2 a i = I b i
theorem Wc.st {a b : Nat} {I2 I : IT} {j : Nat} (h : Wc a b I2 I j) (hab : b ≠ a) : Wc a b (up2 I2 a j (I2 b j)) I (j + 1) := by
  refine ⟨fun x hx => by rw [up2_row hx]; exact h.1 x hx, fun i hi => by rw [up2_nej (by omega)]; exact h.2.1 i (by omega), fun i hi => ?_⟩
  by_cases e : i = j
  · subst e; rw [up2_self, h.1 b hab]
  · rw [up2_nej e]; exact h.2.2 i (by omega)
section RG
variable {E : EnT} {S : ST} {I J : IT} {L LJ : LT} {o : Nat} {A B : AT}
theorem lp_gb1 (h12 : Lay12 E S o) {Q : QT} {a1 : Int32} (hk : ∀ I2, Wc (o + 5) (o + 7) I2 I 1200 → V E kX12_giveBack (rmOf 1 0 0) Q 0 0 S I2 L 33 [(0, .ref o), (1, .int a1), (2, .int (nI 1200))] []) : ∀ (m j : Nat) (I2 : IT), j + m = 1200 → Wc (o + 5) (o + 7) I2 I j → V E kX12_giveBack (rmOf 1 0 0) Q 0 0 S I2 L 8 [(0, .ref o), (1, .int a1), (2, .int (nI j))] [] := by
  intro m
  induction m with
  | zero =>
    intro j I2 hj hW
    have e : j = 1200 := by omega
    subst e
    refine V_iload_n (pc := 8) dX12_giveBack_8 rfl ?_
    refine V_sipush (pc := 9) (v := nI 1200) dX12_giveBack_9 (by decide) ?_
    refine V_icmp_geN (pc := 12) (tgt := 33) dX12_giveBack_12 (by decide) (by omega) (by omega) (fun c12 => ?_) (fun n12 => absurd n12 (by omega))
    exact hk I2 hW
  | succ m ih =>
    intro j I2 hj hW
    refine V_iload_n (pc := 8) dX12_giveBack_8 rfl ?_
    refine V_sipush (pc := 9) (v := nI 1200) dX12_giveBack_9 (by decide) ?_
    refine V_icmp_geN (pc := 12) (tgt := 33) dX12_giveBack_12 (by decide) (by omega) (by omega) (fun c12 => absurd c12 (by omega)) (fun n12 => ?_)
    refine V_aload_n (pc := 15) dX12_giveBack_15 rfl ?_
    refine V_getR (pc := 16) 12 6 dX12_giveBack_16 flX12_23 (by decide) h12.o h12.R6 ?_
    refine V_iload_n (pc := 19) dX12_giveBack_19 rfl ?_
    refine V_aload_n (pc := 20) dX12_giveBack_20 rfl ?_
    refine V_getR (pc := 21) 12 9 dX12_giveBack_21 flX12_29 (by decide) h12.o h12.R9 ?_
    refine V_iload_n (pc := 24) dX12_giveBack_24 rfl ?_
    refine V_iaload (pc := 25) dX12_giveBack_25 h12.A9 (by first | decide | omega) (by omega) ?_
    refine V_iastore (pc := 26) dX12_giveBack_26 h12.A6 (by first | decide | omega) (by omega) ?_
    refine V_iinc1 (pc := 27) (ls' := [(0, _), (1, _), (2, _)]) dX12_giveBack_27 rfl (by decide) rfl ?_
    refine V_goto (pc := 30) (tgt := 8) dX12_giveBack_30 (by decide) ?_
    exact ih (j + 1) _ (by omega) (hW.st (by omega))
theorem lp_gb2 (h12 : Lay12 E S o) {Q : QT} {a1 : Int32} (hk : ∀ I2, Wc (o + 6) (o + 8) I2 I 16 → V E kX12_giveBack (rmOf 1 0 0) Q 0 0 S I2 L 59 [(0, .ref o), (1, .int a1), (2, .int (nI 16))] []) : ∀ (m j : Nat) (I2 : IT), j + m = 16 → Wc (o + 6) (o + 8) I2 I j → V E kX12_giveBack (rmOf 1 0 0) Q 0 0 S I2 L 35 [(0, .ref o), (1, .int a1), (2, .int (nI j))] [] := by
  intro m
  induction m with
  | zero =>
    intro j I2 hj hW
    have e : j = 16 := by omega
    subst e
    refine V_iload_n (pc := 35) dX12_giveBack_35 rfl ?_
    refine V_bipush (pc := 36) (v := nI 16) dX12_giveBack_36 (by decide) ?_
    refine V_icmp_geN (pc := 38) (tgt := 59) dX12_giveBack_38 (by decide) (by omega) (by omega) (fun c38 => ?_) (fun n38 => absurd n38 (by omega))
    exact hk I2 hW
  | succ m ih =>
    intro j I2 hj hW
    refine V_iload_n (pc := 35) dX12_giveBack_35 rfl ?_
    refine V_bipush (pc := 36) (v := nI 16) dX12_giveBack_36 (by decide) ?_
    refine V_icmp_geN (pc := 38) (tgt := 59) dX12_giveBack_38 (by decide) (by omega) (by omega) (fun c38 => absurd c38 (by omega)) (fun n38 => ?_)
    refine V_aload_n (pc := 41) dX12_giveBack_41 rfl ?_
    refine V_getR (pc := 42) 12 7 dX12_giveBack_42 flX12_26 (by decide) h12.o h12.R7 ?_
    refine V_iload_n (pc := 45) dX12_giveBack_45 rfl ?_
    refine V_aload_n (pc := 46) dX12_giveBack_46 rfl ?_
    refine V_getR (pc := 47) 12 10 dX12_giveBack_47 flX12_32 (by decide) h12.o h12.R10 ?_
    refine V_iload_n (pc := 50) dX12_giveBack_50 rfl ?_
    refine V_iaload (pc := 51) dX12_giveBack_51 h12.A10 (by first | decide | omega) (by omega) ?_
    refine V_iastore (pc := 52) dX12_giveBack_52 h12.A7 (by first | decide | omega) (by omega) ?_
    refine V_iinc1 (pc := 53) (ls' := [(0, _), (1, _), (2, _)]) dX12_giveBack_53 rfl (by decide) rfl ?_
    refine V_goto (pc := 56) (tgt := 35) dX12_giveBack_56 (by decide) ?_
    exact ih (j + 1) _ (by omega) (hW.st (by omega))
theorem c_X12_giveBack (h12 : Lay12 E S o) (hM : MR o I L A) (hS : SmO A B) (hJ : MR o J LJ B) (hw : wfA B) (hv : Sv o I J) : C E kX12_giveBack 1 0 0 [.ref o, .int (nI (aun B).1)] S I L (fun r S' I' L' => r = none ∧ S = S' ∧ L' = L ∧ MR o I' L' B ∧ FrM o I' I L' L) := by
  refine C_of (by decide) (Nat.le_of_ble_eq_true rfl) ?_
  refine V_aload_n (pc := 0) dX12_giveBack_0 rfl ?_
  refine V_bipush (pc := 1) (v := nI 17) dX12_giveBack_1 (by decide) ?_
  refine V_callVn (pc := 3) (ci := 12) (c_X12_putBack h12 (k := 17) (by omega)) dX12_giveBack_3 mlX12_192 mkX12_putBack rfl rfl h12.o ⟨by decide, rfl⟩ ⟨Nat.le_of_ble_eq_true rfl, Nat.le_of_ble_eq_true rfl⟩ (Nat.le_of_ble_eq_true rfl) ⟨Nat.le_of_ble_eq_true rfl, Nat.le_of_ble_eq_true rfl⟩ ?_
  refine V_iconst (pc := 6) (v := nI 0) dX12_giveBack_6 (by decide) ?_
  refine V_istore_n (pc := 7) (ls' := [(0, _), (1, _), (2, _)]) dX12_giveBack_7 (by decide) rfl ?_
  refine lp_gb1 h12 (fun I2 hW => ?_) 1200 0 _ rfl ⟨fun _ _ => rfl, fun _ _ => rfl, fun i hi => absurd hi (Nat.not_lt_zero i)⟩
  refine V_iconst (pc := 33) (v := nI 0) dX12_giveBack_33 (by decide) ?_
  refine V_istore_n (pc := 34) (ls' := [(0, _), (1, _), (2, _)]) dX12_giveBack_34 (by decide) rfl ?_
  refine lp_gb2 h12 (fun I3 hW2 => ?_) 16 0 _ rfl ⟨fun _ _ => rfl, fun _ _ => rfl, fun i hi => absurd hi (Nat.not_lt_zero i)⟩
  refine V_aload_n (pc := 59) dX12_giveBack_59 rfl ?_
  refine V_iload_n (pc := 60) dX12_giveBack_60 rfl ?_
  refine V_putI (pc := 61) 12 8 dX12_giveBack_61 flX12_181 (by decide) (by decide) (Or.inl rfl) rfl rfl h12.o ?_
  refine V_vret (pc := 64) dX12_giveBack_64 rfl (by first | decide | omega) (by first | decide | omega) ?_
  have e : ∀ a, a ≠ o + 2 → a ≠ o + 5 → a ≠ o + 6 → a ≠ o → up2 I3 o 8 (nI (aun B).1) a = I a := fun a h1 h2 h3 h4 => by rw [up2_row h4, hW2.1 a h3, hW.1 a h2, upr_row h1]
  have r2 : up2 I3 o 8 (nI (aun B).1) (o + 2) = cpy (I (o + 5)) (I (o + 2)) (75 * 17) 5 75 := by rw [up2_row (by omega), hW2.1 _ (by omega), hW.1 _ (by omega), upr_self]
  refine ⟨rfl, rfl, rfl, hM.gb hS hJ hw e (fun i hi => ?_) up2_self (fun i h1 h2 => ?_) (fun i hi => ?_) (fun i hi => ?_) (fun i hi => ?_), fun a ha => ⟨e a (by omega) (by omega) (by omega) (by omega), rfl⟩⟩
  · rw [up2_nej hi, hW2.1 o (by omega), hW.1 o (by omega), upr_row (by omega)]
  · rw [r2]; unfold cpy; rw [if_pos (by omega), show 75 * 17 + (i - 5) = 1275 + (i - 5) from by omega, hv.1 _ (by omega), show 5 + (i - 5) = i from by omega]
  · rw [r2]; unfold cpy; rw [if_neg (by omega)]
  · rw [up2_ne (by omega), hW2.1 _ (by omega), hW.2.2 i hi, upr_row (by omega)]; exact hv.2.1 i hi
  · rw [up2_ne (by omega), hW2.2.2 i hi, hW.1 _ (by omega), upr_row (by omega)]; exact hv.2.2 i hi
theorem lp_or1 (h12 : Lay12 E S o) {Q : QT} {a1 : Int32} (hk : ∀ I2, Wc (o + 7) (o + 5) I2 I 1200 → V E kX12_orders (rmOf 11 0 0) Q 0 0 S I2 L 102 [(0, .ref o), (1, .int a1), (2, .int (nI 1200))] []) : ∀ (m j : Nat) (I2 : IT), j + m = 1200 → Wc (o + 7) (o + 5) I2 I j → V E kX12_orders (rmOf 11 0 0) Q 0 0 S I2 L 77 [(0, .ref o), (1, .int a1), (2, .int (nI j))] [] := by
  intro m
  induction m with
  | zero =>
    intro j I2 hj hW
    have e : j = 1200 := by omega
    subst e
    refine V_iload_n (pc := 77) dX12_orders_77 rfl ?_
    refine V_sipush (pc := 78) (v := nI 1200) dX12_orders_78 (by decide) ?_
    refine V_icmp_geN (pc := 81) (tgt := 102) dX12_orders_81 (by decide) (by omega) (by omega) (fun c81 => ?_) (fun n81 => absurd n81 (by omega))
    exact hk I2 hW
  | succ m ih =>
    intro j I2 hj hW
    refine V_iload_n (pc := 77) dX12_orders_77 rfl ?_
    refine V_sipush (pc := 78) (v := nI 1200) dX12_orders_78 (by decide) ?_
    refine V_icmp_geN (pc := 81) (tgt := 102) dX12_orders_81 (by decide) (by omega) (by omega) (fun c81 => absurd c81 (by omega)) (fun n81 => ?_)
    refine V_aload_n (pc := 84) dX12_orders_84 rfl ?_
    refine V_getR (pc := 85) 12 9 dX12_orders_85 flX12_29 (by decide) h12.o h12.R9 ?_
    refine V_iload_n (pc := 88) dX12_orders_88 rfl ?_
    refine V_aload_n (pc := 89) dX12_orders_89 rfl ?_
    refine V_getR (pc := 90) 12 6 dX12_orders_90 flX12_23 (by decide) h12.o h12.R6 ?_
    refine V_iload_n (pc := 93) dX12_orders_93 rfl ?_
    refine V_iaload (pc := 94) dX12_orders_94 h12.A6 (by first | decide | omega) (by omega) ?_
    refine V_iastore (pc := 95) dX12_orders_95 h12.A9 (by first | decide | omega) (by omega) ?_
    refine V_iinc1 (pc := 96) (ls' := [(0, _), (1, _), (2, _)]) dX12_orders_96 rfl (by decide) rfl ?_
    refine V_goto (pc := 99) (tgt := 77) dX12_orders_99 (by decide) ?_
    exact ih (j + 1) _ (by omega) (hW.st (by omega))
theorem lp_or2 (h12 : Lay12 E S o) {Q : QT} {a1 : Int32} (hk : ∀ I2, Wc (o + 8) (o + 6) I2 I 16 → V E kX12_orders (rmOf 11 0 0) Q 0 0 S I2 L 128 [(0, .ref o), (1, .int a1), (2, .int (nI 16))] []) : ∀ (m j : Nat) (I2 : IT), j + m = 16 → Wc (o + 8) (o + 6) I2 I j → V E kX12_orders (rmOf 11 0 0) Q 0 0 S I2 L 104 [(0, .ref o), (1, .int a1), (2, .int (nI j))] [] := by
  intro m
  induction m with
  | zero =>
    intro j I2 hj hW
    have e : j = 16 := by omega
    subst e
    refine V_iload_n (pc := 104) dX12_orders_104 rfl ?_
    refine V_bipush (pc := 105) (v := nI 16) dX12_orders_105 (by decide) ?_
    refine V_icmp_geN (pc := 107) (tgt := 128) dX12_orders_107 (by decide) (by omega) (by omega) (fun c107 => ?_) (fun n107 => absurd n107 (by omega))
    exact hk I2 hW
  | succ m ih =>
    intro j I2 hj hW
    refine V_iload_n (pc := 104) dX12_orders_104 rfl ?_
    refine V_bipush (pc := 105) (v := nI 16) dX12_orders_105 (by decide) ?_
    refine V_icmp_geN (pc := 107) (tgt := 128) dX12_orders_107 (by decide) (by omega) (by omega) (fun c107 => absurd c107 (by omega)) (fun n107 => ?_)
    refine V_aload_n (pc := 110) dX12_orders_110 rfl ?_
    refine V_getR (pc := 111) 12 10 dX12_orders_111 flX12_32 (by decide) h12.o h12.R10 ?_
    refine V_iload_n (pc := 114) dX12_orders_114 rfl ?_
    refine V_aload_n (pc := 115) dX12_orders_115 rfl ?_
    refine V_getR (pc := 116) 12 7 dX12_orders_116 flX12_26 (by decide) h12.o h12.R7 ?_
    refine V_iload_n (pc := 119) dX12_orders_119 rfl ?_
    refine V_iaload (pc := 120) dX12_orders_120 h12.A7 (by first | decide | omega) (by omega) ?_
    refine V_iastore (pc := 121) dX12_orders_121 h12.A10 (by first | decide | omega) (by omega) ?_
    refine V_iinc1 (pc := 122) (ls' := [(0, _), (1, _), (2, _)]) dX12_orders_122 rfl (by decide) rfl ?_
    refine V_goto (pc := 125) (tgt := 104) dX12_orders_125 (by decide) ?_
    exact ih (j + 1) _ (by omega) (hW.st (by omega))
end RG
