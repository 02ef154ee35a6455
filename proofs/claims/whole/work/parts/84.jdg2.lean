/-! THE CLASS: the judge looks -/
def Fx (a : Nat) (J I : IT) : Prop := ∀ x, x ≠ a → J x = I x
theorem Fx.rf {a : Nat} {I : IT} : Fx a I I := fun _ _ => rfl
theorem Fx.up {a i : Nat} {v : Int32} {J I : IT} (h : Fx a J I) : Fx a (up2 J a i v) I := fun x hx => by rw [up2_row hx]; exact h x hx
/-- only these two rows have changed -/
def Fj (j t : Nat) (J I : IT) : Prop := ∀ x, x ≠ j + 1 → x ≠ t + 1 → J x = I x
def VgM (I : IT) (g : Nat) (q : Nat → Nat) : Prop := VlM I (g + 1) q ∧ I g 1 = nI (q 1) ∧ (∀ s, s < 6 → I (g + 8) s = nI (q (80 + s))) ∧ (∀ s, s < 6 → I (g + 9) s = nI (q (86 + s))) ∧ I g 4 = nI (q 2) ∧ (∀ k, k < 8 → I (g + 10) k = nI (q (92 + 3 * k)) ∧ I (g + 11) k = nI (q (92 + 3 * k + 1)) ∧ I (g + 12) k = nI (q (92 + 3 * k + 2))) ∧ I g 8 = nI (q 3) ∧ I g 11 = pred1 (q 4)
theorem VgM.cg {I I' : IT} {g : Nat} {q : Nat → Nat} (h : VgM I g q) (e : ∀ a, g ≤ a → a ≤ g + 12 → I' a = I a) : VgM I' g q := by
  obtain ⟨h1, h2⟩ := h
  refine ⟨h1.cg fun a a1 a2 => e a (by omega) (by omega), ?_⟩
  rw [e g (by omega) (by omega), e (g + 8) (by omega) (by omega), e (g + 9) (by omega) (by omega), e (g + 10) (by omega) (by omega), e (g + 11) (by omega) (by omega), e (g + 12) (by omega) (by omega)]
  exact h2
section CE
variable {E : EnT} {S : ST} {I : IT} {L : LT} {j t a v g tt : Nat} {law : LawT} {q : Nat → Nat}
theorem c_X3_lookAt (h3 : Lay3 E S j t) (h9 : Lay9 E S v) (h : VlM I v q) (hq : wq q) (hvj : ∀ x, v ≤ x → x ≤ v + 6 → x ≠ j + 1) {b : Nat} (hb : b < 6) : C E kX3_lookAt 2 0 0 [.ref j, .ref v, .int (nI b)] S I L (fun r S' I' L' => r = none ∧ S = S' ∧ L = L' ∧ Fx (j + 1) I' I ∧ ∀ i, i < 9 → I' (j + 1) i = Int32.ofInt (wdq q b 0 i)) := by
  have hv : ∀ {J : IT}, Fx (j + 1) J I → VlM J v q := fun hJ => h.cg fun a h1 h2 => hJ a (hvj a h1 h2)
  have hbr := hq.br b hb
  refine C_of (by decide) (Nat.le_of_ble_eq_true rfl) ?_
  refine V_aload_n (pc := 0) dX3_lookAt_0 rfl ?_
  refine V_getR (pc := 1) 3 1 dX3_lookAt_1 flX3_11 (by decide) h3.o h3.R1 ?_
  refine V_iconst (pc := 4) (v := nI 0) dX3_lookAt_4 (by decide) ?_
  refine V_iload_n (pc := 5) dX3_lookAt_5 rfl ?_
  refine V_iastore (pc := 6) dX3_lookAt_6 h3.A1 (by first | decide | omega) (by omega) ?_
  refine V_aload_n (pc := 7) dX3_lookAt_7 rfl ?_
  refine V_getR (pc := 8) 3 1 dX3_lookAt_8 flX3_11 (by decide) h3.o h3.R1 ?_
  refine V_iconst (pc := 11) (v := nI 1) dX3_lookAt_11 (by decide) ?_
  refine V_aload_n (pc := 12) dX3_lookAt_12 rfl ?_
  refine V_getR (pc := 13) 9 3 dX3_lookAt_13 flX3_25 (by decide) h9.o h9.R3 ?_
  refine V_iload_n (pc := 16) dX3_lookAt_16 rfl ?_
  refine V_ialoadE (pc := 17) dX3_lookAt_17 h9.A3 (by first | decide | omega) (by omega) ((hv (Fx.rf.up)).2.2.2.1 b hb) ?_
  refine V_iastore (pc := 18) dX3_lookAt_18 h3.A1 (by first | decide | omega) (by omega) ?_
  refine V_aload_n (pc := 19) dX3_lookAt_19 rfl ?_
  refine V_getR (pc := 20) 3 1 dX3_lookAt_20 flX3_11 (by decide) h3.o h3.R1 ?_
  refine V_iconst (pc := 23) (v := nI 2) dX3_lookAt_23 (by decide) ?_
  refine V_aload_n (pc := 24) dX3_lookAt_24 rfl ?_
  refine V_iload_n (pc := 25) dX3_lookAt_25 rfl ?_
  refine V_callVd (pc := 26) (ci := 9) (c_X9_notes h9 (hv (Fx.rf.up.up)) hq hb) dX3_lookAt_26 mlX3_46 mkX9_notes rfl rfl h9.o ⟨by decide, rfl⟩ ⟨Nat.le_of_ble_eq_true rfl, Nat.le_of_ble_eq_true rfl⟩ (Nat.le_of_ble_eq_true rfl) ⟨Nat.le_of_ble_eq_true rfl, Nat.le_of_ble_eq_true rfl⟩ ?_
  refine V_iastore (pc := 29) dX3_lookAt_29 h3.A1 (by first | decide | omega) (by omega) ?_
  refine V_aload_n (pc := 30) dX3_lookAt_30 rfl ?_
  refine V_getR (pc := 31) 3 1 dX3_lookAt_31 flX3_11 (by decide) h3.o h3.R1 ?_
  refine V_iconst (pc := 34) (v := nI 3) dX3_lookAt_34 (by decide) ?_
  refine V_aload_n (pc := 35) dX3_lookAt_35 rfl ?_
  refine V_getR (pc := 36) 9 2 dX3_lookAt_36 flX3_50 (by decide) h9.o h9.R2 ?_
  refine V_iload_n (pc := 39) dX3_lookAt_39 rfl ?_
  refine V_ialoadE (pc := 40) dX3_lookAt_40 h9.A2 (by first | decide | omega) (by omega) ((hv (Fx.rf.up.up.up)).2.2.1 b hb) ?_
  refine V_callSd (pc := 41) (c_J6_bitCount_0f7a4) dX3_lookAt_41 mlX3_53 mkJ6_bitCount_0f7a4 rfl rfl ⟨Nat.le_of_ble_eq_true rfl, Nat.le_of_ble_eq_true rfl⟩ (Nat.le_of_ble_eq_true rfl) ⟨Nat.le_of_ble_eq_true rfl, Nat.le_of_ble_eq_true rfl⟩ ?_
  rw [bcI_N _ hbr]
  refine V_iastore (pc := 44) dX3_lookAt_44 h3.A1 (by first | decide | omega) (by omega) ?_
  refine V_aload_n (pc := 45) dX3_lookAt_45 rfl ?_
  refine V_getR (pc := 46) 3 1 dX3_lookAt_46 flX3_11 (by decide) h3.o h3.R1 ?_
  refine V_iconst (pc := 49) (v := nI 4) dX3_lookAt_49 (by decide) ?_
  refine V_iconst (pc := 50) (v := (-1)) dX3_lookAt_50 (by decide) ?_
  refine V_iastore (pc := 51) dX3_lookAt_51 h3.A1 (by first | decide | omega) (by omega) ?_
  refine V_aload_n (pc := 52) dX3_lookAt_52 rfl ?_
  refine V_getR (pc := 53) 3 1 dX3_lookAt_53 flX3_11 (by decide) h3.o h3.R1 ?_
  refine V_iconst (pc := 56) (v := nI 5) dX3_lookAt_56 (by decide) ?_
  refine V_iconst (pc := 57) (v := (-1)) dX3_lookAt_57 (by decide) ?_
  refine V_iastore (pc := 58) dX3_lookAt_58 h3.A1 (by first | decide | omega) (by omega) ?_
  refine V_aload_n (pc := 59) dX3_lookAt_59 rfl ?_
  refine V_getR (pc := 60) 3 1 dX3_lookAt_60 flX3_11 (by decide) h3.o h3.R1 ?_
  refine V_bipush (pc := 63) (v := nI 6) dX3_lookAt_63 (by decide) ?_
  refine V_iconst (pc := 65) (v := (-1)) dX3_lookAt_65 (by decide) ?_
  refine V_iastore (pc := 66) dX3_lookAt_66 h3.A1 (by first | decide | omega) (by omega) ?_
  refine V_aload_n (pc := 67) dX3_lookAt_67 rfl ?_
  refine V_getR (pc := 68) 3 1 dX3_lookAt_68 flX3_11 (by decide) h3.o h3.R1 ?_
  refine V_bipush (pc := 71) (v := nI 7) dX3_lookAt_71 (by decide) ?_
  refine V_aload_n (pc := 73) dX3_lookAt_73 rfl ?_
  refine V_getR (pc := 74) 9 6 dX3_lookAt_74 flX3_58 (by decide) h9.o h9.R6 ?_
  refine V_iconst (pc := 77) (v := nI 0) dX3_lookAt_77 (by decide) ?_
  refine V_ialoadE (pc := 78) dX3_lookAt_78 h9.A6 (by first | decide | omega) (by omega) ((hv (Fx.rf.up.up.up.up.up.up.up)).2.2.2.2.2.2 0 (by omega)) ?_
  refine V_iastore (pc := 79) dX3_lookAt_79 h3.A1 (by first | decide | omega) (by omega) ?_
  refine V_aload_n (pc := 80) dX3_lookAt_80 rfl ?_
  refine V_getR (pc := 81) 3 1 dX3_lookAt_81 flX3_11 (by decide) h3.o h3.R1 ?_
  refine V_bipush (pc := 84) (v := nI 8) dX3_lookAt_84 (by decide) ?_
  refine V_aload_n (pc := 86) dX3_lookAt_86 rfl ?_
  refine V_getR (pc := 87) 9 6 dX3_lookAt_87 flX3_58 (by decide) h9.o h9.R6 ?_
  refine V_iconst (pc := 90) (v := nI 2) dX3_lookAt_90 (by decide) ?_
  refine V_ialoadE (pc := 91) dX3_lookAt_91 h9.A6 (by first | decide | omega) (by omega) ((hv (Fx.rf.up.up.up.up.up.up.up.up)).2.2.2.2.2.2 2 (by omega)) ?_
  refine V_iastore (pc := 92) dX3_lookAt_92 h3.A1 (by first | decide | omega) (by omega) ?_
  refine V_vret (pc := 93) dX3_lookAt_93 rfl (by first | decide | omega) (by first | decide | omega) ?_
  refine ⟨rfl, rfl, rfl, Fx.rf.up.up.up.up.up.up.up.up.up, fun i hi => ?_⟩
  rcases (show i = 0 ∨ i = 1 ∨ i = 2 ∨ i = 3 ∨ i = 4 ∨ i = 5 ∨ i = 6 ∨ i = 7 ∨ i = 8 by omega) with e | e | e | e | e | e | e | e | e
  · subst e; rw [up2_nej (by omega), up2_nej (by omega), up2_nej (by omega), up2_nej (by omega), up2_nej (by omega), up2_nej (by omega), up2_nej (by omega), up2_nej (by omega), up2_self, i32_N]; rfl
  · subst e; rw [up2_nej (by omega), up2_nej (by omega), up2_nej (by omega), up2_nej (by omega), up2_nej (by omega), up2_nej (by omega), up2_nej (by omega), up2_self, i32_N]; rfl
  · subst e; rw [up2_nej (by omega), up2_nej (by omega), up2_nej (by omega), up2_nej (by omega), up2_nej (by omega), up2_nej (by omega), up2_self, i32_N]; rfl
  · subst e; rw [up2_nej (by omega), up2_nej (by omega), up2_nej (by omega), up2_nej (by omega), up2_nej (by omega), up2_self, i32_N]; rfl
  · subst e; rw [up2_nej (by omega), up2_nej (by omega), up2_nej (by omega), up2_nej (by omega), up2_self]; rfl
  · subst e; rw [up2_nej (by omega), up2_nej (by omega), up2_nej (by omega), up2_self]; rfl
  · subst e; rw [up2_nej (by omega), up2_nej (by omega), up2_self]; rfl
  · subst e; rw [up2_nej (by omega), up2_self, i32_N]; rfl
  · subst e; rw [up2_self, i32_N]; rfl
theorem c_X3_lookAtBoth (h3 : Lay3 E S j t) (h10 : Lay10 E S g tt) (h : VgM I g q) (hq : wq q) (hvj : ∀ x, g ≤ x → x ≤ g + 12 → x ≠ j + 1) {b s : Nat} (hb : b < 6) (hs : s < 6) : C E kX3_lookAtBoth 3 0 0 [.ref j, .ref g, .int (nI b), .int (nI s)] S I L (fun r S' I' L' => r = none ∧ S = S' ∧ L = L' ∧ Fx (j + 1) I' I ∧ ∀ i, i < 9 → I' (j + 1) i = Int32.ofInt (wdq q b (s + 1) i)) := by
  have hv : ∀ {J : IT}, Fx (j + 1) J I → VgM J g q := fun hJ => h.cg fun a h1 h2 => hJ a (hvj a h1 h2)
  have hea := hq.ea s hs
  refine C_of (by decide) (Nat.le_of_ble_eq_true rfl) ?_
  refine V_aload_n (pc := 0) dX3_lookAtBoth_0 rfl ?_
  refine V_aload_n (pc := 1) dX3_lookAtBoth_1 rfl ?_
  refine V_getR (pc := 2) 10 0 dX3_lookAtBoth_2 flX3_61 (by decide) h10.o h10.R0 ?_
  refine V_iload_n (pc := 5) dX3_lookAtBoth_5 rfl ?_
  refine V_callV (pc := 6) (ci := 3) (c_X3_lookAt h3 h10.O0 h.1 hq (fun x h1 h2 => hvj x (by omega) (by omega)) hb) dX3_lookAtBoth_6 mlX3_21 mkX3_lookAt rfl rfl h3.o ⟨by decide, rfl⟩ ⟨Nat.le_of_ble_eq_true rfl, Nat.le_of_ble_eq_true rfl⟩ (Nat.le_of_ble_eq_true rfl) ⟨Nat.le_of_ble_eq_true rfl, Nat.le_of_ble_eq_true rfl⟩ (fun r S' I' L' hp => ?_)
  obtain ⟨rfl, rfl, rfl, hf, hw⟩ := hp
  refine V_aload_n (pc := 9) dX3_lookAtBoth_9 rfl ?_
  refine V_getR (pc := 10) 3 1 dX3_lookAtBoth_10 flX3_11 (by decide) h3.o h3.R1 ?_
  refine V_iconst (pc := 13) (v := nI 4) dX3_lookAtBoth_13 (by decide) ?_
  refine V_iload_n (pc := 14) dX3_lookAtBoth_14 rfl ?_
  refine V_iastore (pc := 15) dX3_lookAtBoth_15 h3.A1 (by first | decide | omega) (by omega) ?_
  refine V_aload_n (pc := 16) dX3_lookAtBoth_16 rfl ?_
  refine V_getR (pc := 17) 3 1 dX3_lookAtBoth_17 flX3_11 (by decide) h3.o h3.R1 ?_
  refine V_iconst (pc := 20) (v := nI 5) dX3_lookAtBoth_20 (by decide) ?_
  refine V_aload_n (pc := 21) dX3_lookAtBoth_21 rfl ?_
  refine V_getR (pc := 22) 10 0 dX3_lookAtBoth_22 flX3_61 (by decide) h10.o h10.R0 ?_
  refine V_iload_n (pc := 25) dX3_lookAtBoth_25 rfl ?_
  refine V_aload_n (pc := 26) dX3_lookAtBoth_26 rfl ?_
  refine V_getR (pc := 27) 10 2 dX3_lookAtBoth_27 flX3_65 (by decide) h10.o h10.R2 ?_
  refine V_iload_n (pc := 30) dX3_lookAtBoth_30 rfl ?_
  refine V_ialoadE (pc := 31) dX3_lookAtBoth_31 h10.A2 (by first | decide | omega) (by omega) ((hv (hf.up)).2.2.1 s hs) ?_
  refine V_callVd (pc := 32) (ci := 9) (c_X9_barsWith h10.O0 (hv (hf.up)).1 hq hb hs) dX3_lookAtBoth_32 mlX3_68 mkX9_barsWith rfl rfl h10.O0.o ⟨by decide, rfl⟩ ⟨Nat.le_of_ble_eq_true rfl, Nat.le_of_ble_eq_true rfl⟩ (Nat.le_of_ble_eq_true rfl) ⟨Nat.le_of_ble_eq_true rfl, Nat.le_of_ble_eq_true rfl⟩ ?_
  refine V_iastore (pc := 35) dX3_lookAtBoth_35 h3.A1 (by first | decide | omega) (by omega) ?_
  refine V_aload_n (pc := 36) dX3_lookAtBoth_36 rfl ?_
  refine V_getR (pc := 37) 3 1 dX3_lookAtBoth_37 flX3_11 (by decide) h3.o h3.R1 ?_
  refine V_bipush (pc := 40) (v := nI 6) dX3_lookAtBoth_40 (by decide) ?_
  refine V_aload_n (pc := 42) dX3_lookAtBoth_42 rfl ?_
  refine V_getR (pc := 43) 10 3 dX3_lookAtBoth_43 flX3_72 (by decide) h10.o h10.R3 ?_
  refine V_iload_n (pc := 46) dX3_lookAtBoth_46 rfl ?_
  refine V_ialoadE (pc := 47) dX3_lookAtBoth_47 h10.A3 (by first | decide | omega) (by omega) ((hv (hf.up.up)).2.2.2.1 s hs) ?_
  refine V_iastore (pc := 48) dX3_lookAtBoth_48 h3.A1 (by first | decide | omega) (by omega) ?_
  refine V_vret (pc := 49) dX3_lookAtBoth_49 rfl (by first | decide | omega) (by first | decide | omega) ?_
  refine ⟨rfl, rfl, rfl, hf.up.up.up, fun i hi => ?_⟩
  by_cases e6 : i = 6
  · subst e6; rw [up2_self, i32_N]
    show _ = Int32.ofInt (if s + 1 = 0 then -1 else (q (86 + (s + 1 - 1)) : Int))
    rw [if_neg (by omega)]; rfl
  rw [up2_nej e6]
  by_cases e5 : i = 5
  · subst e5; rw [up2_self, i32_N]
    show _ = Int32.ofInt (if s + 1 = 0 then -1 else (erq q b (s + 1 - 1) : Int))
    rw [if_neg (by omega)]; rfl
  rw [up2_nej e5]
  by_cases e4 : i = 4
  · subst e4; rw [up2_self, i32_N]
    show _ = Int32.ofInt (((s + 1 : Nat) : Int) - 1)
    congr 1; omega
  rw [up2_nej e4, hw i hi]
  unfold wdq
  rw [if_neg e4, if_neg e5, if_neg e6, if_neg e4, if_neg e5, if_neg e6]
theorem tdI_get {law : LawT} {kd : Nat} {w : WT} {n most wo : Nat} (h : wo ≤ most) : tdI law kd w n most (nI wo) = nI (clampN ((tld law kd w n).getD (wo : Int)) most) := by
  unfold tdI
  cases tld law kd w n with
  | some v => rfl
  | none =>
    show nI wo = nI (clampN (wo : Int) most)
    unfold clampN
    rw [if_neg (by omega), if_neg (by omega)]
    congr 1
theorem c_X3_lasting (h3 : Lay3 E S j t) (h9 : Lay9 E S v) (h : VlM I v q) (hq : wq q) (hvj : ∀ x, v ≤ x → x ≤ v + 6 → x ≠ j + 1) (hT : TxM E S I a law) (hs : LawS law) (hat : (∀ x, a ≤ x → x ≤ a + 5 → x ≠ t + 1 ∧ x ≠ j + 1) ∧ j + 1 ≠ t + 1) {b : Nat} (hb : b < 6) : C E kX3_lasting 3 0 0 [.ref j, .ref a, .ref v, .int (nI b)] S I L (fun r S' I' L' => r = some (.int (nI (lst law q b))) ∧ S = S' ∧ L = L' ∧ Fj j t I' I) := by
  have hsp := hq.sp b hb
  have hnt := nts_le q b
  refine C_of (by decide) (Nat.le_of_ble_eq_true rfl) ?_
  refine V_aload_n (pc := 0) dX3_lasting_0 rfl ?_
  refine V_aload_n (pc := 1) dX3_lasting_1 rfl ?_
  refine V_iload_n (pc := 2) dX3_lasting_2 rfl ?_
  refine V_callV (pc := 3) (ci := 3) (c_X3_lookAt h3 h9 h hq hvj hb) dX3_lasting_3 mlX3_21 mkX3_lookAt rfl rfl h3.o ⟨by decide, rfl⟩ ⟨Nat.le_of_ble_eq_true rfl, Nat.le_of_ble_eq_true rfl⟩ (Nat.le_of_ble_eq_true rfl) ⟨Nat.le_of_ble_eq_true rfl, Nat.le_of_ble_eq_true rfl⟩ (fun r S' I' L' hp => ?_)
  obtain ⟨rfl, rfl, rfl, hf, hw⟩ := hp
  have hv : VlM I' v q := h.cg fun a h1 h2 => hf a (hvj a h1 h2)
  have hT2 : TxM E S I' a law := hT.cg fun x h1 h2 => hf x (hat.1 x h1 h2).2
  refine V_aload_n (pc := 6) dX3_lasting_6 rfl ?_
  refine V_getR (pc := 7) 9 3 dX3_lasting_7 flX3_25 (by decide) h9.o h9.R3 ?_
  refine V_iload_n (pc := 10) dX3_lasting_10 rfl ?_
  refine V_ialoadE (pc := 11) dX3_lasting_11 h9.A3 (by first | decide | omega) (by omega) (hv.2.2.2.1 b hb) ?_
  refine V_aload_n (pc := 12) dX3_lasting_12 rfl ?_
  refine V_getR (pc := 13) 3 1 dX3_lasting_13 flX3_11 (by decide) h3.o h3.R1 ?_
  refine V_iconst (pc := 16) (v := nI 2) dX3_lasting_16 (by decide) ?_
  refine V_ialoadE (pc := 17) dX3_lasting_17 h3.A1 (by first | decide | omega) (by omega) ((hw 2 (by omega)).trans (show Int32.ofInt (wdq q b 0 2) = nI (nts q b) from (i32_N _).symm)) ?_
  refine V_iconst (pc := 18) (v := nI 4) dX3_lasting_18 (by decide) ?_
  refine V_idivN (pc := 19) dX3_lasting_19 (by omega) (by omega) (by omega) ?_
  refine V_iaddN (pc := 20) dX3_lasting_20 ?_
  refine V_istore (pc := 21) (ls' := [(0, _), (1, _), (2, _), (3, _), (4, _)]) dX3_lasting_21 (by decide) rfl ?_
  refine V_aload_n (pc := 23) dX3_lasting_23 rfl ?_
  refine V_aload_n (pc := 24) dX3_lasting_24 rfl ?_
  refine V_iconst (pc := 25) (v := nI 0) dX3_lasting_25 (by decide) ?_
  refine V_bipush (pc := 26) (v := nI 60) dX3_lasting_26 (by decide) ?_
  refine V_iload (pc := 28) dX3_lasting_28 rfl ?_
  refine V_callV (pc := 30) (ci := 3) (c_X3_told h3 hT2 hs ⟨fun x h1 h2 => (hat.1 x h1 h2).1, hat.2⟩ (wdq_ok hq hb (by omega)) hw (by omega) (by omega)) dX3_lasting_30 mlX3_32 mkX3_told rfl rfl h3.o ⟨by decide, rfl⟩ ⟨Nat.le_of_ble_eq_true rfl, Nat.le_of_ble_eq_true rfl⟩ (Nat.le_of_ble_eq_true rfl) ⟨Nat.le_of_ble_eq_true rfl, Nat.le_of_ble_eq_true rfl⟩ (fun r S' I' L' hp => ?_)
  obtain ⟨rfl, rfl, rfl, hf2⟩ := hp
  refine V_iret (pc := 33) dX3_lasting_33 rfl (by first | decide | omega) (by first | decide | omega) ?_
  refine ⟨?_, rfl, rfl, fun x h1 h2 => (hf2 x h2).trans (hf x h1)⟩
  rw [tdI_get (by omega)]
  unfold lst
  rfl
theorem c_X3_losing (h3 : Lay3 E S j t) (h9 : Lay9 E S v) (h : VlM I v q) (hq : wq q) (hvj : ∀ x, v ≤ x → x ≤ v + 6 → x ≠ j + 1) (hT : TxM E S I a law) (hs : LawS law) (hat : (∀ x, a ≤ x → x ≤ a + 5 → x ≠ t + 1 ∧ x ≠ j + 1) ∧ j + 1 ≠ t + 1) {b : Nat} (hb : b < 6) : C E kX3_losing 3 0 0 [.ref j, .ref a, .ref v, .int (nI b)] S I L (fun r S' I' L' => r = some (.int (nI (lss law q b))) ∧ S = S' ∧ L = L' ∧ Fj j t I' I) := by
  refine C_of (by decide) (Nat.le_of_ble_eq_true rfl) ?_
  refine V_aload_n (pc := 0) dX3_losing_0 rfl ?_
  refine V_aload_n (pc := 1) dX3_losing_1 rfl ?_
  refine V_iload_n (pc := 2) dX3_losing_2 rfl ?_
  refine V_callV (pc := 3) (ci := 3) (c_X3_lookAt h3 h9 h hq hvj hb) dX3_losing_3 mlX3_21 mkX3_lookAt rfl rfl h3.o ⟨by decide, rfl⟩ ⟨Nat.le_of_ble_eq_true rfl, Nat.le_of_ble_eq_true rfl⟩ (Nat.le_of_ble_eq_true rfl) ⟨Nat.le_of_ble_eq_true rfl, Nat.le_of_ble_eq_true rfl⟩ (fun r S' I' L' hp => ?_)
  obtain ⟨rfl, rfl, rfl, hf, hw⟩ := hp
  have hT2 : TxM E S I' a law := hT.cg fun x h1 h2 => hf x (hat.1 x h1 h2).2
  refine V_aload_n (pc := 6) dX3_losing_6 rfl ?_
  refine V_aload_n (pc := 7) dX3_losing_7 rfl ?_
  refine V_iconst (pc := 8) (v := nI 2) dX3_losing_8 (by decide) ?_
  refine V_bipush (pc := 9) (v := nI 9) dX3_losing_9 (by decide) ?_
  refine V_iconst (pc := 11) (v := nI 0) dX3_losing_11 (by decide) ?_
  refine V_callV (pc := 12) (ci := 3) (c_X3_told h3 hT2 hs ⟨fun x h1 h2 => (hat.1 x h1 h2).1, hat.2⟩ (wdq_ok hq hb (by omega)) hw (by omega) (by omega)) dX3_losing_12 mlX3_32 mkX3_told rfl rfl h3.o ⟨by decide, rfl⟩ ⟨Nat.le_of_ble_eq_true rfl, Nat.le_of_ble_eq_true rfl⟩ (Nat.le_of_ble_eq_true rfl) ⟨Nat.le_of_ble_eq_true rfl, Nat.le_of_ble_eq_true rfl⟩ (fun r S' I' L' hp => ?_)
  obtain ⟨rfl, rfl, rfl, hf2⟩ := hp
  refine V_iret (pc := 15) dX3_losing_15 rfl (by first | decide | omega) (by first | decide | omega) ?_
  refine ⟨?_, rfl, rfl, fun x h1 h2 => (hf2 x h2).trans (hf x h1)⟩
  rw [tdI_get (by omega)]
  unfold lss
  rfl
end CE
