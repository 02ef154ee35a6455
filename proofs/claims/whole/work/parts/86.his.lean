/-! THE CLASS: valleys are copied, the history -/
theorem cpy0 {f g : Nat → Int32} {n i : Nat} : va_cpy f g 0 0 n i = if i < n then f i else g i := by
  unfold va_cpy
  by_cases h : i < n
  · rw [if_pos (by omega), if_pos h]; congr 1; omega
  · rw [if_neg (by omega), if_neg h]
/-- all but these rows -/
def Fva (v : Nat) (J I : IT) : Prop := ∀ x, (x < v ∨ v + 6 < x) → J x = I x
section CG1
variable {E : EnT} {S : ST} {I : IT} {L : LT} {u v h : Nat} {q : Nat → Nat}
theorem c_X9_copyFrom (h9 : Lay9 E S v) (h9u : Lay9 E S u) (hu : VlM I u q) (huv : u + 6 < v ∨ v + 6 < u) : C E kX9_copyFrom 1 0 0 [.ref v, .ref u] S I L (fun r S' I' L' => r = none ∧ S = S' ∧ L = L' ∧ VlM I' v q ∧ Fva v I' I) := by
  have a1 := h9.A1
  have a2 := h9.A2
  have a3 := h9.A3
  have a4 := h9.A4
  have a5 := h9.A5
  have a6 := h9.A6
  have b1 := h9u.A1
  have b2 := h9u.A2
  have b3 := h9u.A3
  have b4 := h9u.A4
  have b5 := h9u.A5
  have b6 := h9u.A6
  obtain ⟨q0, q1, q2, q3, q4, q5, q6⟩ := hu
  refine C_of (by decide) (Nat.le_of_ble_eq_true rfl) ?_
  refine V_aload_n (pc := 0) dX9_copyFrom_0 rfl ?_
  refine V_aload_n (pc := 1) dX9_copyFrom_1 rfl ?_
  refine V_getIE (pc := 2) 9 0 dX9_copyFrom_2 flX9_9 (by decide) h9u.o (q0) ?_
  refine V_putI (pc := 5) 9 0 dX9_copyFrom_5 flX9_9 (by decide) (by decide) (Or.inl rfl) rfl rfl h9.o ?_
  refine V_aload_n (pc := 8) dX9_copyFrom_8 rfl ?_
  refine V_getR (pc := 9) 9 1 dX9_copyFrom_9 flX9_15 (by decide) h9u.o h9u.R1 ?_
  refine V_iconst (pc := 12) (v := nI 0) dX9_copyFrom_12 (by decide) ?_
  refine V_aload_n (pc := 13) dX9_copyFrom_13 rfl ?_
  refine V_getR (pc := 14) 9 1 dX9_copyFrom_14 flX9_15 (by decide) h9.o h9.R1 ?_
  refine V_iconst (pc := 17) (v := nI 0) dX9_copyFrom_17 (by decide) ?_
  refine V_bipush (pc := 18) (v := nI 48) dX9_copyFrom_18 (by decide) ?_
  refine V_copy (pc := 20) dX9_copyFrom_20 mlX9_40 natAC stAC izSys (by assumption) (by assumption) (by first | decide | omega) (by first | decide | omega) (by omega) (by omega) (Nat.le_of_ble_eq_true rfl) (Nat.le_of_ble_eq_true rfl) ?_
  refine V_aload_n (pc := 23) dX9_copyFrom_23 rfl ?_
  refine V_getR (pc := 24) 9 2 dX9_copyFrom_24 flX9_19 (by decide) h9u.o h9u.R2 ?_
  refine V_iconst (pc := 27) (v := nI 0) dX9_copyFrom_27 (by decide) ?_
  refine V_aload_n (pc := 28) dX9_copyFrom_28 rfl ?_
  refine V_getR (pc := 29) 9 2 dX9_copyFrom_29 flX9_19 (by decide) h9.o h9.R2 ?_
  refine V_iconst (pc := 32) (v := nI 0) dX9_copyFrom_32 (by decide) ?_
  refine V_bipush (pc := 33) (v := nI 6) dX9_copyFrom_33 (by decide) ?_
  refine V_copy (pc := 35) dX9_copyFrom_35 mlX9_40 natAC stAC izSys (by assumption) (by assumption) (by first | decide | omega) (by first | decide | omega) (by omega) (by omega) (Nat.le_of_ble_eq_true rfl) (Nat.le_of_ble_eq_true rfl) ?_
  refine V_aload_n (pc := 38) dX9_copyFrom_38 rfl ?_
  refine V_getR (pc := 39) 9 3 dX9_copyFrom_39 flX9_22 (by decide) h9u.o h9u.R3 ?_
  refine V_iconst (pc := 42) (v := nI 0) dX9_copyFrom_42 (by decide) ?_
  refine V_aload_n (pc := 43) dX9_copyFrom_43 rfl ?_
  refine V_getR (pc := 44) 9 3 dX9_copyFrom_44 flX9_22 (by decide) h9.o h9.R3 ?_
  refine V_iconst (pc := 47) (v := nI 0) dX9_copyFrom_47 (by decide) ?_
  refine V_bipush (pc := 48) (v := nI 6) dX9_copyFrom_48 (by decide) ?_
  refine V_copy (pc := 50) dX9_copyFrom_50 mlX9_40 natAC stAC izSys (by assumption) (by assumption) (by first | decide | omega) (by first | decide | omega) (by omega) (by omega) (Nat.le_of_ble_eq_true rfl) (Nat.le_of_ble_eq_true rfl) ?_
  refine V_aload_n (pc := 53) dX9_copyFrom_53 rfl ?_
  refine V_getR (pc := 54) 9 4 dX9_copyFrom_54 flX9_25 (by decide) h9u.o h9u.R4 ?_
  refine V_iconst (pc := 57) (v := nI 0) dX9_copyFrom_57 (by decide) ?_
  refine V_aload_n (pc := 58) dX9_copyFrom_58 rfl ?_
  refine V_getR (pc := 59) 9 4 dX9_copyFrom_59 flX9_25 (by decide) h9.o h9.R4 ?_
  refine V_iconst (pc := 62) (v := nI 0) dX9_copyFrom_62 (by decide) ?_
  refine V_bipush (pc := 63) (v := nI 6) dX9_copyFrom_63 (by decide) ?_
  refine V_copy (pc := 65) dX9_copyFrom_65 mlX9_40 natAC stAC izSys (by assumption) (by assumption) (by first | decide | omega) (by first | decide | omega) (by omega) (by omega) (Nat.le_of_ble_eq_true rfl) (Nat.le_of_ble_eq_true rfl) ?_
  refine V_aload_n (pc := 68) dX9_copyFrom_68 rfl ?_
  refine V_getR (pc := 69) 9 5 dX9_copyFrom_69 flX9_28 (by decide) h9u.o h9u.R5 ?_
  refine V_iconst (pc := 72) (v := nI 0) dX9_copyFrom_72 (by decide) ?_
  refine V_aload_n (pc := 73) dX9_copyFrom_73 rfl ?_
  refine V_getR (pc := 74) 9 5 dX9_copyFrom_74 flX9_28 (by decide) h9.o h9.R5 ?_
  refine V_iconst (pc := 77) (v := nI 0) dX9_copyFrom_77 (by decide) ?_
  refine V_bipush (pc := 78) (v := nI 6) dX9_copyFrom_78 (by decide) ?_
  refine V_copy (pc := 80) dX9_copyFrom_80 mlX9_40 natAC stAC izSys (by assumption) (by assumption) (by first | decide | omega) (by first | decide | omega) (by omega) (by omega) (Nat.le_of_ble_eq_true rfl) (Nat.le_of_ble_eq_true rfl) ?_
  refine V_aload_n (pc := 83) dX9_copyFrom_83 rfl ?_
  refine V_getR (pc := 84) 9 6 dX9_copyFrom_84 flX9_31 (by decide) h9u.o h9u.R6 ?_
  refine V_iconst (pc := 87) (v := nI 0) dX9_copyFrom_87 (by decide) ?_
  refine V_aload_n (pc := 88) dX9_copyFrom_88 rfl ?_
  refine V_getR (pc := 89) 9 6 dX9_copyFrom_89 flX9_31 (by decide) h9.o h9.R6 ?_
  refine V_iconst (pc := 92) (v := nI 0) dX9_copyFrom_92 (by decide) ?_
  refine V_iconst (pc := 93) (v := nI 3) dX9_copyFrom_93 (by decide) ?_
  refine V_copy (pc := 94) dX9_copyFrom_94 mlX9_40 natAC stAC izSys (by assumption) (by assumption) (by first | decide | omega) (by first | decide | omega) (by omega) (by omega) (Nat.le_of_ble_eq_true rfl) (Nat.le_of_ble_eq_true rfl) ?_
  refine V_vret (pc := 97) dX9_copyFrom_97 rfl (by first | decide | omega) (by first | decide | omega) ?_
  refine ⟨rfl, rfl, rfl, ⟨?_, fun i hi => ?_, fun i hi => ?_, fun i hi => ?_, fun i hi => ?_, fun i hi => ?_, fun i hi => ?_⟩, fun x hx => ?_⟩
  · rw [upr_row (by omega), upr_row (by omega), upr_row (by omega), upr_row (by omega), upr_row (by omega), upr_row (by omega), up2_self]
  · rw [upr_row (by omega), upr_row (by omega), upr_row (by omega), upr_row (by omega), upr_row (by omega), upr_self, cpy0, if_pos hi, up2_row (by omega)]; exact q1 i hi
  · rw [upr_row (by omega), upr_row (by omega), upr_row (by omega), upr_row (by omega), upr_self, cpy0, if_pos hi, upr_row (by omega), up2_row (by omega)]; exact q2 i hi
  · rw [upr_row (by omega), upr_row (by omega), upr_row (by omega), upr_self, cpy0, if_pos hi, upr_row (by omega), upr_row (by omega), up2_row (by omega)]; exact q3 i hi
  · rw [upr_row (by omega), upr_row (by omega), upr_self, cpy0, if_pos hi, upr_row (by omega), upr_row (by omega), upr_row (by omega), up2_row (by omega)]; exact q4 i hi
  · rw [upr_row (by omega), upr_self, cpy0, if_pos hi, upr_row (by omega), upr_row (by omega), upr_row (by omega), upr_row (by omega), up2_row (by omega)]; exact q5 i hi
  · rw [upr_self, cpy0, if_pos hi, upr_row (by omega), upr_row (by omega), upr_row (by omega), upr_row (by omega), upr_row (by omega), up2_row (by omega)]; exact q6 i hi
  · rw [upr_row (by omega), upr_row (by omega), upr_row (by omega), upr_row (by omega), upr_row (by omega), upr_row (by omega), up2_row (by omega)]
def HsM (I : IT) (h : Nat) (q : Nat → Nat) (w : UT) : Prop := ∃ f, f < 16 ∧ I h 0 = nI w.1 ∧ I h 1 = nI f ∧ ∀ k, k < w.1 → I (h + 1) ((f + k) % 16) = nI (w.2.2 k) ∧ VlM I (h + 3 + 7 * ((f + k) % 16)) (mix q (w.2.1 k))
theorem HsM.cg {I I' : IT} {w : UT} (hh : HsM I h q w) (e : ∀ x, h ≤ x → x ≤ h + 114 → I' x = I x) : HsM I' h q w := by
  obtain ⟨f, h1, h2, h3, h4⟩ := hh
  refine ⟨f, h1, by rw [e h (by omega) (by omega)]; exact h2, by rw [e h (by omega) (by omega)]; exact h3, fun k hk => ⟨by rw [e (h + 1) (by omega) (by omega)]; exact (h4 k hk).1, (h4 k hk).2.cg fun a a1 a2 => e a (by omega) (by omega)⟩⟩
theorem HsM.qq {q' : Nat → Nat} {w : UT} (hh : HsM I h q w) (e : ∀ i, (i < 5 ∨ 80 ≤ i) → q' i = q i) : HsM I h q' w := by
  obtain ⟨f, h1, h2, h3, h4⟩ := hh
  exact ⟨f, h1, h2, h3, fun k hk => ⟨(h4 k hk).1, by rw [mix_out e]; exact (h4 k hk).2⟩⟩
/-- all but the history at h -/
def Fh (h : Nat) (J I : IT) : Prop := ∀ x, (x < h ∨ h + 114 < x) → J x = I x
theorem c_X2_clear (h2 : Lay2 E S h) {w : UT} (hh : HsM I h q w) : C E kX2_clear 0 0 0 [.ref h] S I L (fun r S' I' L' => r = none ∧ S = S' ∧ L = L' ∧ HsM I' h q (0, w.2) ∧ Fh h I' I) := by
  obtain ⟨f, h1, h3, h4, h5⟩ := hh
  refine C_of (by decide) (Nat.le_of_ble_eq_true rfl) ?_
  refine V_aload_n (pc := 0) dX2_clear_0 rfl ?_
  refine V_iconst (pc := 1) (v := nI 0) dX2_clear_1 (by decide) ?_
  refine V_putI (pc := 2) 2 0 dX2_clear_2 flX2_9 (by decide) (by decide) (Or.inl rfl) rfl rfl h2.o ?_
  refine V_vret (pc := 5) dX2_clear_5 rfl (by first | decide | omega) (by first | decide | omega) ?_
  exact ⟨rfl, rfl, rfl, ⟨f, h1, up2_self, (up2_nej (by omega)).trans h4, fun k hk => absurd hk (Nat.not_lt_zero k)⟩, fun x hx => up2_row (by omega)⟩
theorem c_X2_put (h2 : Lay2 E S h) (h9 : Lay9 E S v) (hv : VlM I v q) {w : UT} {s : Nat} (hh : HsM I h q w) (hn : w.1 ≤ 16) (hvh : v + 6 < h ∨ h + 114 < v) : C E kX2_put 2 0 0 [.ref h, .int (nI s), .ref v] S I L (fun r S' I' L' => r = none ∧ S = S' ∧ L = L' ∧ HsM I' h q (pshu w q s) ∧ Fh h I' I) := by
  obtain ⟨f, hf, g0, g1, g2⟩ := hh
  have hv9 := h2.2.2.2.2.2.2
  have hbr := h2.2.2.2.2.2.1
  refine C_of (by decide) (Nat.le_of_ble_eq_true rfl) ?_
  by_cases h16 : w.1 = 16
  · have hpl : (f + w.1) % 16 = f := by omega
    have hI1 : ∀ x, x ≠ h → x ≠ h + 1 → up2 (up2 I h 1 (nI ((f + 1) % 16))) (h + 1) f (nI s) x = I x := fun x a1 a2 => by rw [up2_row a2, up2_row a1]
    refine V_aload_n (pc := 0) dX2_put_0 rfl ?_
    refine V_getIE (pc := 1) 2 1 dX2_put_1 flX2_15 (by decide) h2.o (g1) ?_
    refine V_aload_n (pc := 4) dX2_put_4 rfl ?_
    refine V_getIE (pc := 5) 2 0 dX2_put_5 flX2_9 (by decide) h2.o (g0) ?_
    refine V_iaddN (pc := 8) dX2_put_8 ?_
    refine V_bipush (pc := 9) (v := nI 16) dX2_put_9 (by decide) ?_
    refine V_iremN (pc := 11) dX2_put_11 (by omega) (by omega) (by omega) ?_
    refine V_istore_n (pc := 12) (ls' := [(0, _), (1, _), (2, _), (3, _)]) dX2_put_12 (by decide) rfl ?_
    refine V_aload_n (pc := 13) dX2_put_13 rfl ?_
    refine V_getIE (pc := 14) 2 0 dX2_put_14 flX2_9 (by decide) h2.o (g0) ?_
    refine V_bipush (pc := 17) (v := nI 16) dX2_put_17 (by decide) ?_
    refine V_icmp_geN (pc := 19) (tgt := 35) dX2_put_19 (by decide) (by omega) (by omega) (fun c19 => ?_) (fun n19 => absurd n19 (by omega))
    refine V_aload_n (pc := 35) dX2_put_35 rfl ?_
    refine V_aload_n (pc := 36) dX2_put_36 rfl ?_
    refine V_getIE (pc := 37) 2 1 dX2_put_37 flX2_15 (by decide) h2.o (g1) ?_
    refine V_iconst (pc := 40) (v := nI 1) dX2_put_40 (by decide) ?_
    refine V_iaddN (pc := 41) dX2_put_41 ?_
    refine V_bipush (pc := 42) (v := nI 16) dX2_put_42 (by decide) ?_
    refine V_iremN (pc := 44) dX2_put_44 (by omega) (by omega) (by omega) ?_
    refine V_putI (pc := 45) 2 1 dX2_put_45 flX2_15 (by decide) (by decide) (Or.inl rfl) rfl rfl h2.o ?_
    rw [hpl]
    refine V_aload_n (pc := 48) dX2_put_48 rfl ?_
    refine V_getR (pc := 49) 2 2 dX2_put_49 flX2_18 (by decide) h2.o h2.R2 ?_
    refine V_iload_n (pc := 52) dX2_put_52 rfl ?_
    refine V_iload_n (pc := 53) dX2_put_53 rfl ?_
    refine V_iastore (pc := 54) dX2_put_54 h2.A2 (by first | decide | omega) (by omega) ?_
    refine V_aload_n (pc := 55) dX2_put_55 rfl ?_
    refine V_getR (pc := 56) 2 3 dX2_put_56 flX2_24 (by decide) h2.o h2.R3 ?_
    refine V_iload_n (pc := 59) dX2_put_59 rfl ?_
    refine V_aaload (pc := 60) dX2_put_60 h2.A3 (by decide) (by first | decide | omega) (by omega) (hbr f (by omega)) ?_
    refine V_aload_n (pc := 61) dX2_put_61 rfl ?_
    refine V_callV (pc := 62) (ci := 9) (c_X9_copyFrom (hv9 f (by omega)) h9 (hv.cg fun a a1 a2 => hI1 a (by omega) (by omega)) (by omega)) dX2_put_62 mlX2_29 mkX9_copyFrom rfl rfl (hv9 f (by omega)).o ⟨by decide, rfl⟩ ⟨Nat.le_of_ble_eq_true rfl, Nat.le_of_ble_eq_true rfl⟩ (Nat.le_of_ble_eq_true rfl) ⟨Nat.le_of_ble_eq_true rfl, Nat.le_of_ble_eq_true rfl⟩ (fun r S' I' L' hp => ?_)
    obtain ⟨rfl, rfl, rfl, hc, hfr⟩ := hp
    refine V_vret (pc := 65) dX2_put_65 rfl (by first | decide | omega) (by first | decide | omega) ?_
    refine ⟨rfl, rfl, rfl, ⟨(f + 1) % 16, by omega, ?_, ?_, fun k hk => ?_⟩, fun x hx => ?_⟩
    · rw [hfr h (by omega), up2_ne (by omega), up2_nej (by omega), g0, pshu, if_pos h16, h16]
    · rw [hfr h (by omega), up2_ne (by omega), up2_self]
    · have hk : k < 16 := by rw [pshu, if_pos h16] at hk; exact hk
      rw [pshu, if_pos h16]
      show _ = nI (if k = 15 then s else w.2.2 (k + 1)) ∧ VlM _ _ (mix q (if k = 15 then q else w.2.1 (k + 1)))
      rw [hfr (h + 1) (by omega)]
      by_cases z : k = 15
      · rw [if_pos z, if_pos z, z, show ((f + 1) % 16 + 15) % 16 = f by omega, up2_self, mix_self]
        exact ⟨rfl, hc⟩
      · have e1 : ((f + 1) % 16 + k) % 16 = (f + (k + 1)) % 16 := by omega
        have h8 := g2 (k + 1) (by omega)
        rw [if_neg z, if_neg z, e1, up2_nej (by omega), up2_ne (by omega)]
        exact ⟨h8.1, h8.2.cg fun a a1 a2 => by rw [hfr a (by omega)]; exact hI1 a (by omega) (by omega)⟩
    · rw [hfr x (by omega)]; exact hI1 x (by omega) (by omega)
  · have hI1 : ∀ x, x ≠ h → x ≠ h + 1 → up2 (up2 I h 0 (nI (w.1 + 1))) (h + 1) ((f + w.1) % 16) (nI s) x = I x := fun x a1 a2 => by rw [up2_row a2, up2_row a1]
    refine V_aload_n (pc := 0) dX2_put_0 rfl ?_
    refine V_getIE (pc := 1) 2 1 dX2_put_1 flX2_15 (by decide) h2.o (g1) ?_
    refine V_aload_n (pc := 4) dX2_put_4 rfl ?_
    refine V_getIE (pc := 5) 2 0 dX2_put_5 flX2_9 (by decide) h2.o (g0) ?_
    refine V_iaddN (pc := 8) dX2_put_8 ?_
    refine V_bipush (pc := 9) (v := nI 16) dX2_put_9 (by decide) ?_
    refine V_iremN (pc := 11) dX2_put_11 (by omega) (by omega) (by omega) ?_
    refine V_istore_n (pc := 12) (ls' := [(0, _), (1, _), (2, _), (3, _)]) dX2_put_12 (by decide) rfl ?_
    refine V_aload_n (pc := 13) dX2_put_13 rfl ?_
    refine V_getIE (pc := 14) 2 0 dX2_put_14 flX2_9 (by decide) h2.o (g0) ?_
    refine V_bipush (pc := 17) (v := nI 16) dX2_put_17 (by decide) ?_
    refine V_icmp_geN (pc := 19) (tgt := 35) dX2_put_19 (by decide) (by omega) (by omega) (fun c19 => absurd c19 (by omega)) (fun n19 => ?_)
    refine V_aload_n (pc := 22) dX2_put_22 rfl ?_
    refine V_dup (pc := 23) dX2_put_23 rfl ?_
    refine V_getIE (pc := 24) 2 0 dX2_put_24 flX2_9 (by decide) h2.o (g0) ?_
    refine V_iconst (pc := 27) (v := nI 1) dX2_put_27 (by decide) ?_
    refine V_iaddN (pc := 28) dX2_put_28 ?_
    refine V_putI (pc := 29) 2 0 dX2_put_29 flX2_9 (by decide) (by decide) (Or.inl rfl) rfl rfl h2.o ?_
    refine V_goto (pc := 32) (tgt := 48) dX2_put_32 (by decide) ?_
    refine V_aload_n (pc := 48) dX2_put_48 rfl ?_
    refine V_getR (pc := 49) 2 2 dX2_put_49 flX2_18 (by decide) h2.o h2.R2 ?_
    refine V_iload_n (pc := 52) dX2_put_52 rfl ?_
    refine V_iload_n (pc := 53) dX2_put_53 rfl ?_
    refine V_iastore (pc := 54) dX2_put_54 h2.A2 (by first | decide | omega) (by omega) ?_
    refine V_aload_n (pc := 55) dX2_put_55 rfl ?_
    refine V_getR (pc := 56) 2 3 dX2_put_56 flX2_24 (by decide) h2.o h2.R3 ?_
    refine V_iload_n (pc := 59) dX2_put_59 rfl ?_
    refine V_aaload (pc := 60) dX2_put_60 h2.A3 (by decide) (by first | decide | omega) (by omega) (hbr ((f + w.1) % 16) (by omega)) ?_
    refine V_aload_n (pc := 61) dX2_put_61 rfl ?_
    refine V_callV (pc := 62) (ci := 9) (c_X9_copyFrom (hv9 ((f + w.1) % 16) (by omega)) h9 (hv.cg fun a a1 a2 => hI1 a (by omega) (by omega)) (by omega)) dX2_put_62 mlX2_29 mkX9_copyFrom rfl rfl (hv9 ((f + w.1) % 16) (by omega)).o ⟨by decide, rfl⟩ ⟨Nat.le_of_ble_eq_true rfl, Nat.le_of_ble_eq_true rfl⟩ (Nat.le_of_ble_eq_true rfl) ⟨Nat.le_of_ble_eq_true rfl, Nat.le_of_ble_eq_true rfl⟩ (fun r S' I' L' hp => ?_)
    obtain ⟨rfl, rfl, rfl, hc, hfr⟩ := hp
    refine V_vret (pc := 65) dX2_put_65 rfl (by first | decide | omega) (by first | decide | omega) ?_
    refine ⟨rfl, rfl, rfl, ⟨f, hf, ?_, ?_, fun k hk => ?_⟩, fun x hx => ?_⟩
    · rw [hfr h (by omega), up2_ne (by omega), up2_self, pshu, if_neg h16]
    · rw [hfr h (by omega), up2_ne (by omega), up2_nej (by omega)]; exact g1
    · have hk : k < w.1 + 1 := by rw [pshu, if_neg h16] at hk; exact hk
      rw [pshu, if_neg h16]
      show _ = nI (if k = w.1 then s else w.2.2 k) ∧ VlM _ _ (mix q (if k = w.1 then q else w.2.1 k))
      rw [hfr (h + 1) (by omega)]
      by_cases z : k = w.1
      · rw [if_pos z, if_pos z, z, up2_self, mix_self]
        exact ⟨rfl, hc⟩
      · have h8 := g2 k (by omega)
        rw [if_neg z, if_neg z, up2_nej (by omega), up2_ne (by omega)]
        exact ⟨h8.1, h8.2.cg fun a a1 a2 => by rw [hfr a (by omega)]; exact hI1 a (by omega) (by omega)⟩
    · rw [hfr x (by omega)]; exact hI1 x (by omega) (by omega)
end CG1
