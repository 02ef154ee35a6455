/-! THE CLASS: images -/
theorem Ext.rf {E : EnT} {S : ST} {P : Nat → Prop} : Ext E S S P := fun _ h => ⟨h, rfl, fun _ => rfl⟩
theorem Ext.tr {E : EnT} {S S1 S2 : ST} {P : Nat → Prop} (h : Ext E S S1 P) (g : Ext E S1 S2 P) : Ext E S S2 P := fun x hx => ⟨(g x (h x hx).1).1, (g x (h x hx).1).2.1.trans (h x hx).2.1, fun p => ((g x (h x hx).1).2.2 p).trans ((h x hx).2.2 p)⟩
theorem TxM.ext {E : EnT} {S S' : ST} {I : IT} {a : Nat} {law : LawT} {P : Nat → Prop} (h : TxM E S I a law) (e : Ext E S S' P) (p : P a) : TxM E S' I a law := by
  obtain ⟨h12, m, op, arg, h1, h2⟩ := h
  exact ⟨h12, m, op, arg, h1.ext e p, h2⟩
theorem txa.nt {B a : Nat} (h : txa B a) : NT B a := by unfold txa at h; unfold NT; omega
theorem LwC.ext {E : EnT} {S S' : ST} {I : IT} {B g tt : Nat} {q : Nat → Nat} {lw : Nat → LawT} (h : LwC E S I B g tt q lw) (e : Ext E S S' (NT B)) (hr : S'.2.2 (g + 13) = S.2.2 (g + 13)) : LwC E S' I B g tt q lw := by
  refine ⟨fun l hl => ?_, h.2.1, h.2.2.ext e h.2.1.nt⟩
  obtain ⟨a, h1, h2, h3⟩ := h.1 l hl
  exact ⟨a, by rw [hr]; exact h1, h2.ext e h3.nt, h3⟩
section CQ
variable {E : EnT} {S : ST} {I : IT} {L : LT} {B : Nat} {A : AT}
theorem lp_vcp {g u tt : Nat} {Q : QT} (h10 : Lay10 E S g tt) (h10u : Lay10 E S u tt) (hgu : u + 13 < g ∨ g + 13 < u) (hx : ∀ l, l < 6 → ∃ a, S.2.2 (u + 13) l = some a ∧ isO E S a 7)
    (hk : ∀ S', S'.1 = S.1 → S'.2.1 = S.2.1 → (∀ x, x ≠ g + 13 → S'.2.2 x = S.2.2 x) → (∀ l, l < 6 → S'.2.2 (g + 13) l = S.2.2 (u + 13) l) → V E kX10_copyFrom (rmOf 2 0 0) Q 0 0 S' I L 136 [(0, .ref g), (1, .ref u), (2, .int (nI 6))] []) :
    V E kX10_copyFrom (rmOf 2 0 0) Q 0 0 S I L 112 [(0, .ref g), (1, .ref u), (2, .int (nI 0))] [] := by
  have key : ∀ n, n ≤ 6 → ∀ S' : ST, S'.1 = S.1 → S'.2.1 = S.2.1 → (∀ x, x ≠ g + 13 → S'.2.2 x = S.2.2 x) → (∀ l, l < n → S'.2.2 (g + 13) l = S.2.2 (u + 13) l) → V E kX10_copyFrom (rmOf 2 0 0) Q 0 0 S' I L 112 [(0, .ref g), (1, .ref u), (2, .int (nI n))] [] := by
    refine loopUp (n := 6) (P := fun n => ∀ S' : ST, S'.1 = S.1 → S'.2.1 = S.2.1 → (∀ x, x ≠ g + 13 → S'.2.2 x = S.2.2 x) → (∀ l, l < n → S'.2.2 (g + 13) l = S.2.2 (u + 13) l) → V E kX10_copyFrom (rmOf 2 0 0) Q 0 0 S' I L 112 [(0, .ref g), (1, .ref u), (2, .int (nI n))] []) ?_ ?_
    · intro S' e1 e2 e3 e4
      refine V_iload_n (pc := 112) dX10_copyFrom_112 rfl ?_
      refine V_bipush (pc := 113) (v := nI 6) dX10_copyFrom_113 (by decide) ?_
      refine V_icmp_geN (pc := 115) (tgt := 136) dX10_copyFrom_115 (by decide) (by omega) (by omega) (fun c115 => ?_) (fun n115 => absurd n115 (by omega))
      exact hk S' e1 e2 e3 e4
    · intro n hn ih S' e1 e2 e3 e4
      have ex : Ext E S S' (fun x => x ≠ g + 13) := fun x hx => ⟨⟨hx.1, by rw [e1]; exact hx.2⟩, by rw [e2], fun p => e3 x p⟩
      have g10 : Lay10 E S' g tt := h10.ext ex (by show g ≠ g + 13; omega) (by show g + 1 ≠ g + 13; omega)
      have u10 : Lay10 E S' u tt := h10u.ext ex (by show u ≠ g + 13; omega) (by show u + 1 ≠ g + 13; omega)
      obtain ⟨a, ha, hao⟩ := hx n hn
      have ha' : S'.2.2 (u + 13) n = some a := by rw [e3 _ (by omega)]; exact ha
      refine V_iload_n (pc := 112) dX10_copyFrom_112 rfl ?_
      refine V_bipush (pc := 113) (v := nI 6) dX10_copyFrom_113 (by decide) ?_
      refine V_icmp_geN (pc := 115) (tgt := 136) dX10_copyFrom_115 (by decide) (by omega) (by omega) (fun c115 => absurd c115 (by omega)) (fun n115 => ?_)
      refine V_aload_n (pc := 118) dX10_copyFrom_118 rfl ?_
      refine V_getR (pc := 119) 10 9 dX10_copyFrom_119 flX10_46 (by decide) g10.o g10.R9 ?_
      refine V_iload_n (pc := 122) dX10_copyFrom_122 rfl ?_
      refine V_aload_n (pc := 123) dX10_copyFrom_123 rfl ?_
      refine V_getR (pc := 124) 10 9 dX10_copyFrom_124 flX10_46 (by decide) u10.o u10.R9 ?_
      refine V_iload_n (pc := 127) dX10_copyFrom_127 rfl ?_
      refine V_aaload (pc := 128) dX10_copyFrom_128 u10.A9 (by decide) (by first | decide | omega) (by omega) ha' ?_
      refine V_aastore (pc := 129) dX10_copyFrom_129 g10.A9 (by first | decide | omega) (by omega) (hao.ext ex) (by decide) ?_
      refine V_iinc1 (pc := 130) (ls' := [(0, _), (1, _), (2, _)]) dX10_copyFrom_130 rfl (by decide) rfl ?_
      refine V_goto (pc := 133) (tgt := 112) dX10_copyFrom_133 (by decide) ?_
      refine ih _ e1 e2 (fun x hx => by show up2 S'.2.2 _ _ _ x = _; rw [up2_row hx]; exact e3 x hx) (fun l hl => ?_)
      show up2 S'.2.2 _ _ _ _ _ = _
      by_cases z : l = n
      · subst z; rw [up2_self]; exact ha.symm
      · rw [up2_nej z]; exact e4 l (by omega)
  exact key 0 (by omega) S rfl rfl (fun _ _ => rfl) (fun l hl => absurd hl (Nat.not_lt_zero l))
theorem c_X10_copyFrom {g u tt : Nat} {q : Nat → Nat} (h10 : Lay10 E S g tt) (h10u : Lay10 E S u tt) (hgu : u + 13 < g ∨ g + 13 < u) (hx : ∀ l, l < 6 → ∃ a, S.2.2 (u + 13) l = some a ∧ isO E S a 7) (hv : VgM I u q) : C E kX10_copyFrom 2 0 0 [.ref g, .ref u] S I L (fun r S' I' L' => r = none ∧ L = L' ∧ VgM I' g q ∧ (∀ x, (x < g ∨ g + 12 < x) → I' x = I x) ∧ S'.1 = S.1 ∧ S'.2.1 = S.2.1 ∧ (∀ x, x ≠ g + 13 → S'.2.2 x = S.2.2 x) ∧ ∀ l, l < 6 → S'.2.2 (g + 13) l = S.2.2 (u + 13) l) := by
  have a2 := h10.A2
  have a3 := h10.A3
  have a5 := h10.A5
  have a6 := h10.A6
  have a7 := h10.A7
  have b2 := h10u.A2
  have b3 := h10u.A3
  have b5 := h10u.A5
  have b6 := h10u.A6
  have b7 := h10u.A7
  obtain ⟨v1, v2, v3, v4, v5, v6, v7, v8⟩ := hv
  refine C_of (by decide) (Nat.le_of_ble_eq_true rfl) ?_
  refine V_aload_n (pc := 0) dX10_copyFrom_0 rfl ?_
  refine V_getR (pc := 1) 10 0 dX10_copyFrom_1 flX10_12 (by decide) h10.o h10.R0 ?_
  refine V_aload_n (pc := 4) dX10_copyFrom_4 rfl ?_
  refine V_getR (pc := 5) 10 0 dX10_copyFrom_5 flX10_12 (by decide) h10u.o h10u.R0 ?_
  refine V_callV (pc := 8) (ci := 9) (c_X9_copyFrom h10.O0 h10u.O0 v1 (by omega)) dX10_copyFrom_8 mlX10_57 mkX9_copyFrom rfl rfl h10.O0.o ⟨by decide, rfl⟩ ⟨Nat.le_of_ble_eq_true rfl, Nat.le_of_ble_eq_true rfl⟩ (Nat.le_of_ble_eq_true rfl) ⟨Nat.le_of_ble_eq_true rfl, Nat.le_of_ble_eq_true rfl⟩ (fun r S' I' L' hp => ?_)
  obtain ⟨rfl, rfl, rfl, hc, hf⟩ := hp
  refine V_aload_n (pc := 11) dX10_copyFrom_11 rfl ?_
  refine V_aload_n (pc := 12) dX10_copyFrom_12 rfl ?_
  refine V_getIE (pc := 13) 10 1 dX10_copyFrom_13 flX10_18 (by decide) h10u.o ((congrFun (hf u (by omega)) _).trans v2) ?_
  refine V_putI (pc := 16) 10 1 dX10_copyFrom_16 flX10_18 (by decide) (by decide) (Or.inl rfl) rfl rfl h10.o ?_
  refine V_aload_n (pc := 19) dX10_copyFrom_19 rfl ?_
  refine V_getR (pc := 20) 10 2 dX10_copyFrom_20 flX10_22 (by decide) h10u.o h10u.R2 ?_
  refine V_iconst (pc := 23) (v := nI 0) dX10_copyFrom_23 (by decide) ?_
  refine V_aload_n (pc := 24) dX10_copyFrom_24 rfl ?_
  refine V_getR (pc := 25) 10 2 dX10_copyFrom_25 flX10_22 (by decide) h10.o h10.R2 ?_
  refine V_iconst (pc := 28) (v := nI 0) dX10_copyFrom_28 (by decide) ?_
  refine V_bipush (pc := 29) (v := nI 6) dX10_copyFrom_29 (by decide) ?_
  refine V_copy (pc := 31) dX10_copyFrom_31 mlX10_61 natAC stAC izSys (by assumption) (by assumption) (by first | decide | omega) (by first | decide | omega) (by omega) (by omega) (Nat.le_of_ble_eq_true rfl) (Nat.le_of_ble_eq_true rfl) ?_
  refine V_aload_n (pc := 34) dX10_copyFrom_34 rfl ?_
  refine V_getR (pc := 35) 10 3 dX10_copyFrom_35 flX10_26 (by decide) h10u.o h10u.R3 ?_
  refine V_iconst (pc := 38) (v := nI 0) dX10_copyFrom_38 (by decide) ?_
  refine V_aload_n (pc := 39) dX10_copyFrom_39 rfl ?_
  refine V_getR (pc := 40) 10 3 dX10_copyFrom_40 flX10_26 (by decide) h10.o h10.R3 ?_
  refine V_iconst (pc := 43) (v := nI 0) dX10_copyFrom_43 (by decide) ?_
  refine V_bipush (pc := 44) (v := nI 6) dX10_copyFrom_44 (by decide) ?_
  refine V_copy (pc := 46) dX10_copyFrom_46 mlX10_61 natAC stAC izSys (by assumption) (by assumption) (by first | decide | omega) (by first | decide | omega) (by omega) (by omega) (Nat.le_of_ble_eq_true rfl) (Nat.le_of_ble_eq_true rfl) ?_
  refine V_aload_n (pc := 49) dX10_copyFrom_49 rfl ?_
  refine V_aload_n (pc := 50) dX10_copyFrom_50 rfl ?_
  refine V_getIE (pc := 51) 10 4 dX10_copyFrom_51 flX10_29 (by decide) h10u.o (show _ = nI (q 2) by rw [upr_row (by omega), upr_row (by omega), up2_ne (by omega), hf u (by omega)]; exact v5) ?_
  refine V_putI (pc := 54) 10 4 dX10_copyFrom_54 flX10_29 (by decide) (by decide) (Or.inl rfl) rfl rfl h10.o ?_
  refine V_aload_n (pc := 57) dX10_copyFrom_57 rfl ?_
  refine V_getR (pc := 58) 10 5 dX10_copyFrom_58 flX10_32 (by decide) h10u.o h10u.R5 ?_
  refine V_iconst (pc := 61) (v := nI 0) dX10_copyFrom_61 (by decide) ?_
  refine V_aload_n (pc := 62) dX10_copyFrom_62 rfl ?_
  refine V_getR (pc := 63) 10 5 dX10_copyFrom_63 flX10_32 (by decide) h10.o h10.R5 ?_
  refine V_iconst (pc := 66) (v := nI 0) dX10_copyFrom_66 (by decide) ?_
  refine V_bipush (pc := 67) (v := nI 8) dX10_copyFrom_67 (by decide) ?_
  refine V_copy (pc := 69) dX10_copyFrom_69 mlX10_61 natAC stAC izSys (by assumption) (by assumption) (by first | decide | omega) (by first | decide | omega) (by omega) (by omega) (Nat.le_of_ble_eq_true rfl) (Nat.le_of_ble_eq_true rfl) ?_
  refine V_aload_n (pc := 72) dX10_copyFrom_72 rfl ?_
  refine V_getR (pc := 73) 10 6 dX10_copyFrom_73 flX10_35 (by decide) h10u.o h10u.R6 ?_
  refine V_iconst (pc := 76) (v := nI 0) dX10_copyFrom_76 (by decide) ?_
  refine V_aload_n (pc := 77) dX10_copyFrom_77 rfl ?_
  refine V_getR (pc := 78) 10 6 dX10_copyFrom_78 flX10_35 (by decide) h10.o h10.R6 ?_
  refine V_iconst (pc := 81) (v := nI 0) dX10_copyFrom_81 (by decide) ?_
  refine V_bipush (pc := 82) (v := nI 8) dX10_copyFrom_82 (by decide) ?_
  refine V_copy (pc := 84) dX10_copyFrom_84 mlX10_61 natAC stAC izSys (by assumption) (by assumption) (by first | decide | omega) (by first | decide | omega) (by omega) (by omega) (Nat.le_of_ble_eq_true rfl) (Nat.le_of_ble_eq_true rfl) ?_
  refine V_aload_n (pc := 87) dX10_copyFrom_87 rfl ?_
  refine V_getR (pc := 88) 10 7 dX10_copyFrom_88 flX10_38 (by decide) h10u.o h10u.R7 ?_
  refine V_iconst (pc := 91) (v := nI 0) dX10_copyFrom_91 (by decide) ?_
  refine V_aload_n (pc := 92) dX10_copyFrom_92 rfl ?_
  refine V_getR (pc := 93) 10 7 dX10_copyFrom_93 flX10_38 (by decide) h10.o h10.R7 ?_
  refine V_iconst (pc := 96) (v := nI 0) dX10_copyFrom_96 (by decide) ?_
  refine V_bipush (pc := 97) (v := nI 8) dX10_copyFrom_97 (by decide) ?_
  refine V_copy (pc := 99) dX10_copyFrom_99 mlX10_61 natAC stAC izSys (by assumption) (by assumption) (by first | decide | omega) (by first | decide | omega) (by omega) (by omega) (Nat.le_of_ble_eq_true rfl) (Nat.le_of_ble_eq_true rfl) ?_
  refine V_aload_n (pc := 102) dX10_copyFrom_102 rfl ?_
  refine V_aload_n (pc := 103) dX10_copyFrom_103 rfl ?_
  refine V_getIE (pc := 104) 10 8 dX10_copyFrom_104 flX10_41 (by decide) h10u.o (show _ = nI (q 3) by rw [upr_row (by omega), upr_row (by omega), upr_row (by omega), up2_ne (by omega), upr_row (by omega), upr_row (by omega), up2_ne (by omega), hf u (by omega)]; exact v7) ?_
  refine V_putI (pc := 107) 10 8 dX10_copyFrom_107 flX10_41 (by decide) (by decide) (Or.inl rfl) rfl rfl h10.o ?_
  refine V_iconst (pc := 110) (v := nI 0) dX10_copyFrom_110 (by decide) ?_
  refine V_istore_n (pc := 111) (ls' := [(0, _), (1, _), (2, _)]) dX10_copyFrom_111 (by decide) rfl ?_
  refine lp_vcp h10 h10u hgu hx (fun S' e1 e2 e3 e4 => ?_)
  have ex : Ext E S S' (fun x => x ≠ g + 13) := fun x hx => ⟨⟨hx.1, by rw [e1]; exact hx.2⟩, by rw [e2], fun p => e3 x p⟩
  have g10 : Lay10 E S' g tt := h10.ext ex (by show g ≠ g + 13; omega) (by show g + 1 ≠ g + 13; omega)
  have u10 : Lay10 E S' u tt := h10u.ext ex (by show u ≠ g + 13; omega) (by show u + 1 ≠ g + 13; omega)
  refine V_aload_n (pc := 136) dX10_copyFrom_136 rfl ?_
  refine V_aload_n (pc := 137) dX10_copyFrom_137 rfl ?_
  refine V_getIE (pc := 138) 10 11 dX10_copyFrom_138 flX10_50 (by decide) u10.o (show _ = pred1 (q 4) by rw [up2_ne (by omega), upr_row (by omega), upr_row (by omega), upr_row (by omega), up2_ne (by omega), upr_row (by omega), upr_row (by omega), up2_ne (by omega), hf u (by omega)]; exact v8) ?_
  refine V_putI (pc := 141) 10 11 dX10_copyFrom_141 flX10_50 (by decide) (by decide) (Or.inl rfl) rfl rfl g10.o ?_
  refine V_vret (pc := 144) dX10_copyFrom_144 rfl (by first | decide | omega) (by first | decide | omega) ?_
  refine ⟨rfl, rfl, ⟨?_, ?_, fun s hs => ?_, fun s hs => ?_, ?_, fun k hk => ?_, ?_, ?_⟩, fun x hx => ?_, e1, e2, e3, e4⟩
  · exact hc.cg fun a a1 a2 => by rw [up2_row (by omega), up2_row (by omega), upr_row (by omega), upr_row (by omega), upr_row (by omega), up2_row (by omega), upr_row (by omega), upr_row (by omega), up2_row (by omega)]
  · rw [up2_nej (by omega), up2_nej (by omega), upr_row (by omega), upr_row (by omega), upr_row (by omega), up2_nej (by omega), upr_row (by omega), upr_row (by omega), up2_self]
  · rw [up2_row (by omega), up2_row (by omega), upr_row (by omega), upr_row (by omega), upr_row (by omega), up2_row (by omega), upr_row (by omega), upr_self, cpy0, if_pos hs, up2_row (by omega), hf _ (by omega)]; exact v3 s hs
  · rw [up2_row (by omega), up2_row (by omega), upr_row (by omega), upr_row (by omega), upr_row (by omega), up2_row (by omega), upr_self, cpy0, if_pos hs, upr_row (by omega), up2_row (by omega), hf _ (by omega)]; exact v4 s hs
  · rw [up2_nej (by omega), up2_nej (by omega), upr_row (by omega), upr_row (by omega), upr_row (by omega), up2_self]
  · have w := v6 k hk
    refine ⟨?_, ?_, ?_⟩
    · rw [up2_row (by omega), up2_row (by omega), upr_row (by omega), upr_row (by omega), upr_self, cpy0, if_pos hk, up2_row (by omega), upr_row (by omega), upr_row (by omega), up2_row (by omega), hf _ (by omega)]; exact w.1
    · rw [up2_row (by omega), up2_row (by omega), upr_row (by omega), upr_self, cpy0, if_pos hk, upr_row (by omega), up2_row (by omega), upr_row (by omega), upr_row (by omega), up2_row (by omega), hf _ (by omega)]; exact w.2.1
    · rw [up2_row (by omega), up2_row (by omega), upr_self, cpy0, if_pos hk, upr_row (by omega), upr_row (by omega), up2_row (by omega), upr_row (by omega), upr_row (by omega), up2_row (by omega), hf _ (by omega)]; exact w.2.2
  · rw [up2_nej (by omega), up2_self]
  · rw [up2_self]
  · rw [up2_row (by omega), up2_row (by omega), upr_row (by omega), upr_row (by omega), upr_row (by omega), up2_row (by omega), upr_row (by omega), upr_row (by omega), up2_row (by omega), hf _ (by omega)]
/-- worlds that differ only in rows of texts, and have no cell more -/
def SmS (E : EnT) (S' S : ST) (B : Nat) : Prop := S'.1 = S.1 ∧ S'.2.1 = S.2.1 ∧ ∀ x, NT B x → S'.2.2 x = S.2.2 x
theorem SmS.rf {S : ST} : SmS E S S B := ⟨rfl, rfl, fun _ _ => rfl⟩
theorem SmS.ext {S' : ST} (h : SmS E S' S B) : Ext E S S' (NT B) := fun x hx => ⟨⟨hx.1, by rw [h.1]; exact hx.2⟩, by rw [h.2.1], fun p => h.2.2 x p⟩
abbrev Ci (E : EnT) (k : MI) (d : Nat) (av : List Value) (S : ST) (I : IT) (L : LT) (B : Nat) (v : Value) (A' : AT) : Prop := C E k d 0 0 av S I L (fun r S' I' L' => r = some v ∧ SmS E S' S B ∧ CR E S' B I' A' ∧ FrC B I' I L' L)
theorem imgR (h11 : Lay11 E S B) {k : Nat} (hk : k < 2) : S.2.2 (B + 1) k = some (B + 50 + 14 * k) ∧ Lay10 E S (B + 50 + 14 * k) (B + 30) := by
  have hc : k = 0 ∨ k = 1 := by omega
  rcases hc with rfl | rfl
  · exact ⟨h11.E1a, h11.V1a⟩
  · exact ⟨h11.E1b, h11.V1b⟩
theorem XC.cg {I' : IT} {x : XT} (h : XC I B x) (e : ∀ a, (a = B ∨ a = B + 17 ∨ a = B + 21) → I' a = I a) : XC I' B x := by
  unfold XC at h ⊢
  rw [e B (Or.inl rfl), e (B + 17) (Or.inr (Or.inl rfl)), e (B + 21) (Or.inr (Or.inr rfl))]
  exact h
theorem TpC.cg {I' : IT} {t : Nat × (Nat → Nat)} (h : TpC I B t) (e : ∀ a, (a = B ∨ a = B + 16) → I' a = I a) : TpC I' B t := by
  unfold TpC at h ⊢
  rw [e B (Or.inl rfl), e (B + 16) (Or.inr rfl)]
  exact h
theorem c_X11_image (h11 : Lay11 E S B) (hR : CR E S B I A) (hA : wfA A) {x : Int32} : Ci E kX11_image 3 [.ref B, .int x] S I L B (.int (spImage A x).1) (spImage A x).2 := by
  have hnl := hA.q.nl
  refine C_of (by decide) (Nat.le_of_ble_eq_true rfl) ?_
  refine V_iload_n (pc := 0) dX11_image_0 rfl ?_
  refine V_if_lt (pc := 1) (tgt := 9) dX11_image_1 (by decide) (fun c1 => ?_) (fun n1 => ?_)
  · skip
    have hb : bnd x 2 = false := by first | exact bnd_lo c1 | exact bnd_nlt (by omega) n6 | fail
    rw [spImage, if_neg (by rw [hb]; decide)]
    refine V_aload_n (pc := 9) dX11_image_9 rfl ?_
    refine V_iconst (pc := 10) (v := (-1)) dX11_image_10 (by decide) ?_
    refine V_callVd (pc := 11) (ci := 11) (c_X11_refuse (r := 1) h11 (by decide) (by decide) (by decide)) dX11_image_11 mlX11_112 mkX11_refuse rfl rfl h11.o ⟨by decide, rfl⟩ ⟨Nat.le_of_ble_eq_true rfl, Nat.le_of_ble_eq_true rfl⟩ (Nat.le_of_ble_eq_true rfl) ⟨Nat.le_of_ble_eq_true rfl, Nat.le_of_ble_eq_true rfl⟩ ?_
    refine V_iret (pc := 14) dX11_image_14 rfl (by first | decide | omega) (by first | decide | omega) ?_
    exact ⟨rfl, SmS.rf, hR.hrf, rfuC_Fr FrC.rf⟩
  · skip
    refine V_iload_n (pc := 4) dX11_image_4 rfl ?_
    refine V_iconst (pc := 5) (v := nI 2) dX11_image_5 (by decide) ?_
    refine V_icmp_lt (pc := 6) (tgt := 15) dX11_image_6 (by decide) (fun c6 => ?_) (fun n6 => ?_)
    · skip
      have hb : bnd x 2 = true := bnd_ltx (by omega) n1 c6
      obtain ⟨k, hk, hx⟩ := bnd_ex (by omega) hb
      rw [spImage, if_pos hb]
      subst hx
      rw [cln_nI (by omega)]
      have hir := (imgR h11 hk).1
      have hil := (imgR h11 hk).2
      refine V_aload_n (pc := 15) dX11_image_15 rfl ?_
      refine V_getR (pc := 16) 11 1 dX11_image_16 flX11_11 (by decide) h11.o h11.R1 ?_
      refine V_iload_n (pc := 19) dX11_image_19 rfl ?_
      refine V_aaload (pc := 20) dX11_image_20 h11.A1 (by decide) (by first | decide | omega) (by omega) hir ?_
      refine V_aload_n (pc := 21) dX11_image_21 rfl ?_
      refine V_getR (pc := 22) 11 0 dX11_image_22 flX11_91 (by decide) h11.o h11.R0 ?_
      refine V_callV (pc := 25) (ci := 10) (c_X10_copyFrom hil h11.O0 (by omega) (hR.2.2.2.2.2.2.2 (B + 36) (Or.inl rfl)) hR.1) dX11_image_25 mlX11_389 mkX10_copyFrom rfl rfl hil.o ⟨by decide, rfl⟩ ⟨Nat.le_of_ble_eq_true rfl, Nat.le_of_ble_eq_true rfl⟩ (Nat.le_of_ble_eq_true rfl) ⟨Nat.le_of_ble_eq_true rfl, Nat.le_of_ble_eq_true rfl⟩ (fun r S' I' L' hp => ?_)
      obtain ⟨rfl, rfl, hv, hf, e1, e2, e3, e4⟩ := hp
      have hs : SmS E S' S B := ⟨e1, e2, fun y hy => e3 y (by unfold NT at hy; omega)⟩
      have h11' := h11.nt hs.ext
      obtain ⟨r1, r2, r3, r4, r5, r6, r7, r8⟩ := hR
      have hf1 : ∀ y, y ≠ B + 2 → (y < B + 50 + 14 * k ∨ B + 50 + 14 * k + 12 < y) → up2 I' (B + 2) k (nI 1) y = I y := fun y a1 a2 => by rw [up2_row a1]; exact hf y a2
      have hR1 : CR E S' B (up2 I' (B + 2) k (nI 1)) (sim A (fun j => if j = k then (true, aq A, alw A) else aim A j)) := by
        refine ⟨r1.cg fun a a1 a2 => hf1 a (by omega) (by omega), (r2.ext hs.ext (e3 _ (by omega))).cg fun y hy => hf1 y (by omega) (by omega), r3.cg fun y a1 a2 => hf1 y (by omega) (by omega), ?_, r5.cg fun y hy => hf1 y (by omega) (by omega), r6.cg fun y hy => hf1 y (by omega) (by omega), r7.cg fun y a1 a2 => hf1 y (by omega) (by omega), ?_⟩
        · intro j hj
          show _ = b2i (if j = k then (true, aq A, alw A) else aim A j).1 ∧ ((if j = k then (true, aq A, alw A) else aim A j).1 = true → VgM _ _ (if j = k then (true, aq A, alw A) else aim A j).2.1 ∧ LwC E S' _ B _ _ (if j = k then (true, aq A, alw A) else aim A j).2.1 (if j = k then (true, aq A, alw A) else aim A j).2.2)
          by_cases z : j = k
          · rw [if_pos z, z, up2_self]
            refine ⟨rfl, fun _ => ⟨hv.cg fun a a1 a2 => up2_row (by omega), ⟨fun l hl => ?_, r2.2.1, (r2.2.2.ext hs.ext r2.2.1.nt).cg fun y a1 a2 => hf1 y (by have := r2.2.1; unfold txa at this; omega) (by have := r2.2.1; unfold txa at this; omega)⟩⟩⟩
            have hl : l < aq A 3 := hl
            obtain ⟨a, a1, a2, a3⟩ := r2.1 l hl
            refine ⟨a, by rw [e4 l (by omega)]; exact a1, (a2.ext hs.ext a3.nt).cg fun y b1 b2 => hf1 y (by unfold txa at a3; omega) (by unfold txa at a3; omega), a3⟩
          · rw [if_neg z, up2_nej z]
            have h4 := r4 j hj
            refine ⟨by rw [hf _ (by omega)]; exact h4.1, fun ht => ⟨(h4.2 ht).1.cg fun a a1 a2 => hf1 a (by omega) (by omega), ((h4.2 ht).2.ext hs.ext (e3 _ (by omega))).cg fun y hy => hf1 y (by omega) (by omega)⟩⟩
        · intro g hg l hl
          by_cases z : g + 13 = B + 50 + 14 * k + 13
          · obtain ⟨a, a1, a2⟩ := r8 (B + 36) (Or.inl rfl) l hl
            exact ⟨a, by rw [z, e4 l hl]; exact a1, a2.ext hs.ext⟩
          · obtain ⟨a, a1, a2⟩ := r8 g hg l hl
            exact ⟨a, by rw [e3 _ z]; exact a1, a2.ext hs.ext⟩
      refine V_aload_n (pc := 28) dX11_image_28 rfl ?_
      refine V_getR (pc := 29) 11 2 dX11_image_29 flX11_15 (by decide) h11'.o h11'.R2 ?_
      refine V_iload_n (pc := 32) dX11_image_32 rfl ?_
      refine V_iconst (pc := 33) (v := nI 1) dX11_image_33 (by decide) ?_
      refine V_bastore (pc := 34) dX11_image_34 h11'.A2 (by first | decide | omega) (by omega) rfl ?_
      refine V_aload_n (pc := 35) dX11_image_35 rfl ?_
      refine V_iconst (pc := 36) (v := nI 0) dX11_image_36 (by decide) ?_
      refine V_callVd (pc := 37) (ci := 11) (c_X11_grant h11') dX11_image_37 mlX11_137 mkX11_grant rfl rfl h11'.o ⟨by decide, rfl⟩ ⟨Nat.le_of_ble_eq_true rfl, Nat.le_of_ble_eq_true rfl⟩ (Nat.le_of_ble_eq_true rfl) ⟨Nat.le_of_ble_eq_true rfl, Nat.le_of_ble_eq_true rfl⟩ ?_
      refine V_iret (pc := 40) dX11_image_40 rfl (by first | decide | omega) (by first | decide | omega) ?_
      exact ⟨rfl, hs, hR1.hok, fun y hy => ⟨by rw [up2_row (by omega)]; exact hf1 y (by omega) (by omega), rfl⟩⟩
    · skip
      have hb : bnd x 2 = false := by first | exact bnd_lo c1 | exact bnd_nlt (by omega) n6 | fail
      rw [spImage, if_neg (by rw [hb]; decide)]
      refine V_aload_n (pc := 9) dX11_image_9 rfl ?_
      refine V_iconst (pc := 10) (v := (-1)) dX11_image_10 (by decide) ?_
      refine V_callVd (pc := 11) (ci := 11) (c_X11_refuse (r := 1) h11 (by decide) (by decide) (by decide)) dX11_image_11 mlX11_112 mkX11_refuse rfl rfl h11.o ⟨by decide, rfl⟩ ⟨Nat.le_of_ble_eq_true rfl, Nat.le_of_ble_eq_true rfl⟩ (Nat.le_of_ble_eq_true rfl) ⟨Nat.le_of_ble_eq_true rfl, Nat.le_of_ble_eq_true rfl⟩ ?_
      refine V_iret (pc := 14) dX11_image_14 rfl (by first | decide | omega) (by first | decide | omega) ?_
      exact ⟨rfl, SmS.rf, hR.hrf, rfuC_Fr FrC.rf⟩
theorem c_X11_back (h11 : Lay11 E S B) (hR : CR E S B I A) (hA : wfA A) {x : Int32} : Ci E kX11_back 3 [.ref B, .int x] S I L B (.int (spBack A x).1) (spBack A x).2 := by
  refine C_of (by decide) (Nat.le_of_ble_eq_true rfl) ?_
  refine V_iload_n (pc := 0) dX11_back_0 rfl ?_
  refine V_if_lt (pc := 1) (tgt := 9) dX11_back_1 (by decide) (fun c1 => ?_) (fun n1 => ?_)
  · skip
    have hb : bnd x 2 = false := by first | exact bnd_lo c1 | exact bnd_nlt (by omega) n6 | fail
    rw [spBack, if_neg (by rw [hb]; decide)]
    refine V_aload_n (pc := 9) dX11_back_9 rfl ?_
    refine V_iconst (pc := 10) (v := (-1)) dX11_back_10 (by decide) ?_
    refine V_callVd (pc := 11) (ci := 11) (c_X11_refuse (r := 1) h11 (by decide) (by decide) (by decide)) dX11_back_11 mlX11_112 mkX11_refuse rfl rfl h11.o ⟨by decide, rfl⟩ ⟨Nat.le_of_ble_eq_true rfl, Nat.le_of_ble_eq_true rfl⟩ (Nat.le_of_ble_eq_true rfl) ⟨Nat.le_of_ble_eq_true rfl, Nat.le_of_ble_eq_true rfl⟩ ?_
    refine V_iret (pc := 14) dX11_back_14 rfl (by first | decide | omega) (by first | decide | omega) ?_
    exact ⟨rfl, SmS.rf, hR.hrf, rfuC_Fr FrC.rf⟩
  · skip
    refine V_iload_n (pc := 4) dX11_back_4 rfl ?_
    refine V_iconst (pc := 5) (v := nI 2) dX11_back_5 (by decide) ?_
    refine V_icmp_lt (pc := 6) (tgt := 15) dX11_back_6 (by decide) (fun c6 => ?_) (fun n6 => ?_)
    · skip
      have hb : bnd x 2 = true := bnd_ltx (by omega) n1 c6
      obtain ⟨k, hk, hx⟩ := bnd_ex (by omega) hb
      rw [spBack, if_pos hb]
      subst hx
      rw [cln_nI (by omega)]
      have hir := (imgR h11 hk).1
      have hil := (imgR h11 hk).2
      have h4 := hR.2.2.2.1 k hk
      refine V_aload_n (pc := 15) dX11_back_15 rfl ?_
      refine V_getR (pc := 16) 11 2 dX11_back_16 flX11_15 (by decide) h11.o h11.R2 ?_
      refine V_iload_n (pc := 19) dX11_back_19 rfl ?_
      refine V_baloadE (pc := 20) dX11_back_20 h11.A2 (by first | decide | omega) (by omega) (h4.1) ?_
      refine V_if_neB (pc := 21) (tgt := 31) dX11_back_21 (by decide) (fun c21 => ?_) (fun n21 => ?_)
      · skip
        rw [if_pos c21]
        have h5 := h4.2 c21
        have hqk := (hA.2.2.2.2.1 k hk c21).1
        have hnl := hqk.nl
        refine V_aload_n (pc := 31) dX11_back_31 rfl ?_
        refine V_getR (pc := 32) 11 0 dX11_back_32 flX11_91 (by decide) h11.o h11.R0 ?_
        refine V_aload_n (pc := 35) dX11_back_35 rfl ?_
        refine V_getR (pc := 36) 11 1 dX11_back_36 flX11_11 (by decide) h11.o h11.R1 ?_
        refine V_iload_n (pc := 39) dX11_back_39 rfl ?_
        refine V_aaload (pc := 40) dX11_back_40 h11.A1 (by decide) (by first | decide | omega) (by omega) hir ?_
        refine V_callV (pc := 41) (ci := 10) (c_X10_copyFrom h11.O0 hil (by omega) (hR.2.2.2.2.2.2.2 (B + 50 + 14 * k) (by omega)) h5.1) dX11_back_41 mlX11_389 mkX10_copyFrom rfl rfl h11.O0.o ⟨by decide, rfl⟩ ⟨Nat.le_of_ble_eq_true rfl, Nat.le_of_ble_eq_true rfl⟩ (Nat.le_of_ble_eq_true rfl) ⟨Nat.le_of_ble_eq_true rfl, Nat.le_of_ble_eq_true rfl⟩ (fun r S' I' L' hp => ?_)
        obtain ⟨rfl, rfl, hv, hf, e1, e2, e3, e4⟩ := hp
        have hs : SmS E S' S B := ⟨e1, e2, fun y hy => e3 y (by unfold NT at hy; omega)⟩
        have h11' := h11.nt hs.ext
        obtain ⟨r1, r2, r3, r4, r5, r6, r7, r8⟩ := hR
        have r3' : HsM I' (B + 83) (aq A) (aun A) := r3.cg fun y a1 a2 => hf y (by omega)
        refine V_aload_n (pc := 44) dX11_back_44 rfl ?_
        refine V_getR (pc := 45) 11 4 dX11_back_45 flX11_99 (by decide) h11'.o h11'.R4 ?_
        refine V_getR (pc := 48) 0 3 dX11_back_48 flX11_125 (by decide) h11'.O4.o h11'.O4.R3 ?_
        refine V_callV (pc := 51) (ci := 2) (c_X2_clear h11'.O4.O3 r3') dX11_back_51 mlX11_129 mkX2_clear rfl rfl h11'.O4.O3.o ⟨by decide, rfl⟩ ⟨Nat.le_of_ble_eq_true rfl, Nat.le_of_ble_eq_true rfl⟩ (Nat.le_of_ble_eq_true rfl) ⟨Nat.le_of_ble_eq_true rfl, Nat.le_of_ble_eq_true rfl⟩ (fun r S' I' L' hp => ?_)
        obtain ⟨rfl, rfl, rfl, hh, hf2⟩ := hp
        refine V_aload_n (pc := 54) dX11_back_54 rfl ?_
        refine V_iconst (pc := 55) (v := nI 0) dX11_back_55 (by decide) ?_
        refine V_callVd (pc := 56) (ci := 11) (c_X11_grant h11') dX11_back_56 mlX11_137 mkX11_grant rfl rfl h11'.o ⟨by decide, rfl⟩ ⟨Nat.le_of_ble_eq_true rfl, Nat.le_of_ble_eq_true rfl⟩ (Nat.le_of_ble_eq_true rfl) ⟨Nat.le_of_ble_eq_true rfl, Nat.le_of_ble_eq_true rfl⟩ ?_
        refine V_iret (pc := 59) dX11_back_59 rfl (by first | decide | omega) (by first | decide | omega) ?_
        have hf1 : ∀ y, (y < B + 36 ∨ B + 48 < y) → (y < B + 83 ∨ B + 197 < y) → I' y = I y := fun y a1 a2 => (hf2 y (by omega)).trans (hf y (by omega))
        refine ⟨rfl, hs, CR.hok ?_, fun y hy => ⟨by rw [up2_row (by omega)]; exact hf1 y (by omega) (by omega), rfl⟩⟩
        refine ⟨hv.cg fun a a1 a2 => hf2 a (by omega), ⟨fun l hl => ?_, r2.2.1, (r2.2.2.ext hs.ext r2.2.1.nt).cg fun y a1 a2 => hf1 y (by have := r2.2.1; unfold txa at this; omega) (by have := r2.2.1; unfold txa at this; omega)⟩, ?_, ?_, r5.cg fun y hy => hf1 y (by omega) (by omega), r6.cg fun y hy => hf1 y (by omega) (by omega), r7.cg fun y a1 a2 => hf1 y (by omega) (by omega), ?_⟩
        · have hl : l < (aim A k).2.1 3 := hl
          obtain ⟨a, a1, a2, a3⟩ := h5.2.1 l hl
          exact ⟨a, by rw [e4 l (by omega)]; exact a1, (a2.ext hs.ext a3.nt).cg fun y b1 b2 => hf1 y (by unfold txa at a3; omega) (by unfold txa at a3; omega), a3⟩
        · obtain ⟨f, f1, f2, f3, -⟩ := hh
          exact ⟨f, f1, f2, f3, fun k hk => absurd hk (Nat.not_lt_zero k)⟩
        · intro j hj
          have h6 := r4 j hj
          exact ⟨by rw [hf1 _ (by omega) (by omega)]; exact h6.1, fun ht => ⟨(h6.2 ht).1.cg fun a a1 a2 => hf1 a (by omega) (by omega), ((h6.2 ht).2.ext hs.ext (e3 _ (by omega))).cg fun y hy => hf1 y (by omega) (by omega)⟩⟩
        · intro g hg l hl
          by_cases z : g + 13 = B + 36 + 13
          · obtain ⟨a, a1, a2⟩ := r8 (B + 50 + 14 * k) (by omega) l hl
            exact ⟨a, by rw [z, e4 l hl]; exact a1, a2.ext hs.ext⟩
          · obtain ⟨a, a1, a2⟩ := r8 g hg l hl
            exact ⟨a, by rw [e3 _ z]; exact a1, a2.ext hs.ext⟩
      · skip
        refine V_aload_n (pc := 24) dX11_back_24 rfl ?_
        refine V_bipush (pc := 25) (v := (-2)) dX11_back_25 (by decide) ?_
        refine V_callVd (pc := 27) (ci := 11) (c_X11_refuse (r := 2) h11 (by decide) (by decide) (by decide)) dX11_back_27 mlX11_112 mkX11_refuse rfl rfl h11.o ⟨by decide, rfl⟩ ⟨Nat.le_of_ble_eq_true rfl, Nat.le_of_ble_eq_true rfl⟩ (Nat.le_of_ble_eq_true rfl) ⟨Nat.le_of_ble_eq_true rfl, Nat.le_of_ble_eq_true rfl⟩ ?_
        refine V_iret (pc := 30) dX11_back_30 rfl (by first | decide | omega) (by first | decide | omega) ?_
        rw [if_neg (by rw [n21]; decide)]
        exact ⟨rfl, SmS.rf, hR.hrf, rfuC_Fr FrC.rf⟩
    · skip
      have hb : bnd x 2 = false := by first | exact bnd_lo c1 | exact bnd_nlt (by omega) n6 | fail
      rw [spBack, if_neg (by rw [hb]; decide)]
      refine V_aload_n (pc := 9) dX11_back_9 rfl ?_
      refine V_iconst (pc := 10) (v := (-1)) dX11_back_10 (by decide) ?_
      refine V_callVd (pc := 11) (ci := 11) (c_X11_refuse (r := 1) h11 (by decide) (by decide) (by decide)) dX11_back_11 mlX11_112 mkX11_refuse rfl rfl h11.o ⟨by decide, rfl⟩ ⟨Nat.le_of_ble_eq_true rfl, Nat.le_of_ble_eq_true rfl⟩ (Nat.le_of_ble_eq_true rfl) ⟨Nat.le_of_ble_eq_true rfl, Nat.le_of_ble_eq_true rfl⟩ ?_
      refine V_iret (pc := 14) dX11_back_14 rfl (by first | decide | omega) (by first | decide | omega) ?_
      exact ⟨rfl, SmS.rf, hR.hrf, rfuC_Fr FrC.rf⟩
end CQ
