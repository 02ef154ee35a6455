/-! THE CLASS: copies, what is taken back, which boxes were heard -/
def VlE (I' : IT) (v : Nat) (I : IT) (u : Nat) : Prop := I' v 0 = I u 0 ∧ (∀ i, i < 48 → I' (v + 1) i = I (u + 1) i) ∧ (∀ b, b < 6 → I' (v + 2) b = I (u + 2) b) ∧ (∀ b, b < 6 → I' (v + 3) b = I (u + 3) b) ∧ (∀ b, b < 6 → I' (v + 4) b = I (u + 4) b) ∧ (∀ b, b < 6 → I' (v + 5) b = I (u + 5) b) ∧ (∀ i, i < 3 → I' (v + 6) i = I (u + 6) i)
theorem VlM.ofE {I I' : IT} {u v : Nat} {q : Nat → Nat} (h : VlM I u q) (e : VlE I' v I u) : VlM I' v q := by
  obtain ⟨h0, h1, h2, h3, h4, h5, h6⟩ := h
  obtain ⟨e0, e1, e2, e3, e4, e5, e6⟩ := e
  exact ⟨e0.trans h0, fun i hi => (e1 i hi).trans (h1 i hi), fun i hi => (e2 i hi).trans (h2 i hi), fun i hi => (e3 i hi).trans (h3 i hi), fun i hi => (e4 i hi).trans (h4 i hi), fun i hi => (e5 i hi).trans (h5 i hi), fun i hi => (e6 i hi).trans (h6 i hi)⟩
theorem VlE.cg {I I' J J' : IT} {u v : Nat} (h : VlE I' v I u) (e : ∀ a, v ≤ a → a ≤ v + 6 → J' a = I' a) (e2 : ∀ a, u ≤ a → a ≤ u + 6 → J a = I a) : VlE J' v J u := by
  unfold VlE at h ⊢
  rw [e v (by omega) (by omega), e (v + 1) (by omega) (by omega), e (v + 2) (by omega) (by omega), e (v + 3) (by omega) (by omega), e (v + 4) (by omega) (by omega), e (v + 5) (by omega) (by omega), e (v + 6) (by omega) (by omega)]
  rw [e2 u (by omega) (by omega), e2 (u + 1) (by omega) (by omega), e2 (u + 2) (by omega) (by omega), e2 (u + 3) (by omega) (by omega), e2 (u + 4) (by omega) (by omega), e2 (u + 5) (by omega) (by omega), e2 (u + 6) (by omega) (by omega)]
  exact h
/-- the valley speaks of the boxes' number, of terms and boxes -/
theorem VlM.ext {I : IT} {v : Nat} {q q' : Nat → Nat} (h : VlM I v q) (e : ∀ i, (i = 0 ∨ 5 ≤ i ∧ i < 80) → q' i = q i) : VlM I v q' := by
  obtain ⟨h0, h1, h2, h3, h4, h5, h6⟩ := h
  exact ⟨by rw [e 0 (by omega)]; exact h0, fun i hi => by rw [e _ (by omega)]; exact h1 i hi, fun i hi => by rw [e _ (by omega)]; exact h2 i hi, fun i hi => by rw [e _ (by omega)]; exact h3 i hi, fun i hi => by rw [e _ (by omega)]; exact h4 i hi, fun i hi => by rw [e _ (by omega)]; exact h5 i hi, fun i hi => by rw [e _ (by omega)]; exact h6 i hi⟩
theorem HsM.q0 {I : IT} {h : Nat} {q q' : Nat → Nat} {w : UT} (hh : HsM I h q w) (e : q' 0 = q 0) : HsM I h q' w := by
  obtain ⟨f, h1, h2, h3, h4⟩ := hh
  refine ⟨f, h1, h2, h3, fun k hk => ⟨(h4 k hk).1, (h4 k hk).2.ext fun i hi => ?_⟩⟩
  unfold mix
  by_cases z : 5 ≤ i ∧ i < 80
  · rw [if_pos z, if_pos z]
  · rw [if_neg z, if_neg z]
    rcases hi with hi | hi
    · rw [hi, e]
    · exact absurd hi z
theorem bts_bit (f : Nat → Bool) : ∀ n i, (bts f n).testBit i = (decide (i < n) && f i)
  | 0, i => by simp [bts]
  | n + 1, i => by
    rw [bts, Nat.testBit_or, bts_bit f n i]
    by_cases e : i = n
    · subst e
      by_cases hf : f i = true
      · rw [if_pos hf, Nat.testBit_two_pow_self]; simp [hf]
      · rw [if_neg hf]; simp [hf]
    · have h2 : (if f n = true then 2 ^ n else 0 : Nat).testBit i = false := by
        split
        · rw [Nat.testBit_two_pow]; simp; omega
        · simp
      rw [h2, Bool.or_false]
      by_cases h3 : i < n
      · simp [h3, show i < n + 1 by omega]
      · simp [h3, show ¬ i < n + 1 by omega]
theorem bts_true (n : Nat) : bts (fun _ => true) n = 2 ^ n - 1 := by
  apply Nat.eq_of_testBit_eq
  intro i
  rw [bts_bit, Nat.testBit_two_pow_sub_one]; simp
theorem bts_and (f g : Nat → Bool) (n : Nat) : bts f n &&& bts g n = bts (fun b => f b && g b) n := by
  apply Nat.eq_of_testBit_eq
  intro i
  rw [Nat.testBit_and, bts_bit, bts_bit, bts_bit]
  cases decide (i < n) <;> simp
theorem bts_andn (f g : Nat → Bool) {n : Nat} (hn : n ≤ 8) : andn (bts f n) (bts g n) = bts (fun b => f b && !g b) n := by
  apply Nat.eq_of_testBit_eq
  intro i
  unfold andn
  rw [Nat.testBit_and, Nat.testBit_xor, bts_bit, bts_bit, bts_bit]
  rw [show (255 : Nat) = 2 ^ 8 - 1 from rfl, Nat.testBit_two_pow_sub_one]
  by_cases h : i < n
  · simp [h, show i < 8 by omega]
  · simp [h]
theorem bts_cong {f g : Nat → Bool} : ∀ {n : Nat}, (∀ b, b < n → f b = g b) → bts f n = bts g n := by
  intro n h
  apply Nat.eq_of_testBit_eq
  intro i
  rw [bts_bit, bts_bit]
  by_cases z : i < n
  · rw [h i z]
  · simp [z]
def bwt (q : Nat → Nat) (j t n : Nat) : Nat := bts (fun b => decide (nt q b j / 2 ^ t % 2 = 1)) n
theorem bwt_s (q : Nat → Nat) (j t n : Nat) : bwt q j t (n + 1) = bwt q j t n ||| (if decide (nt q n j / 2 ^ t % 2 = 1) = true then 2 ^ n else 0) := rfl
section CH
variable {E : EnT} {S : ST} {I : IT} {L : LT} {u v h g : Nat} {q : Nat → Nat}
theorem c_X9_copyRaw (h9 : Lay9 E S v) (h9u : Lay9 E S u) (huv : u + 6 < v ∨ v + 6 < u) : C E kX9_copyFrom 1 0 0 [.ref v, .ref u] S I L (fun r S' I' L' => r = none ∧ S = S' ∧ L = L' ∧ VlE I' v I u ∧ Fva v I' I) := by
  have a1 := h9.A1
  have a2 := h9.A2
  have a3 := h9.A3
  have a4 := h9.A4
  have a5 := h9.A5
  have a6 := h9.A6
  have b1 := h9u.A1
  have b2 := h9u.A2
  have b3 := h9u.A3
  have b4 := h9u.A4
  have b5 := h9u.A5
  have b6 := h9u.A6
  refine C_of (by decide) (Nat.le_of_ble_eq_true rfl) ?_
  refine V_aload_n (pc := 0) dX9_copyFrom_0 rfl ?_
  refine V_aload_n (pc := 1) dX9_copyFrom_1 rfl ?_
  refine V_getI (pc := 2) 9 0 dX9_copyFrom_2 flX9_9 (by decide) h9u.o ?_
  refine V_putI (pc := 5) 9 0 dX9_copyFrom_5 flX9_9 (by decide) (by decide) (Or.inl rfl) rfl rfl h9.o ?_
  refine V_aload_n (pc := 8) dX9_copyFrom_8 rfl ?_
  refine V_getR (pc := 9) 9 1 dX9_copyFrom_9 flX9_15 (by decide) h9u.o h9u.R1 ?_
  refine V_iconst (pc := 12) (v := nI 0) dX9_copyFrom_12 (by decide) ?_
  refine V_aload_n (pc := 13) dX9_copyFrom_13 rfl ?_
  refine V_getR (pc := 14) 9 1 dX9_copyFrom_14 flX9_15 (by decide) h9.o h9.R1 ?_
  refine V_iconst (pc := 17) (v := nI 0) dX9_copyFrom_17 (by decide) ?_
  refine V_bipush (pc := 18) (v := nI 48) dX9_copyFrom_18 (by decide) ?_
  refine V_copy (pc := 20) dX9_copyFrom_20 mlX9_40 natAC stAC izSys (by assumption) (by assumption) (by first | decide | omega) (by first | decide | omega) (by omega) (by omega) (Nat.le_of_ble_eq_true rfl) (Nat.le_of_ble_eq_true rfl) ?_
  refine V_aload_n (pc := 23) dX9_copyFrom_23 rfl ?_
  refine V_getR (pc := 24) 9 2 dX9_copyFrom_24 flX9_19 (by decide) h9u.o h9u.R2 ?_
  refine V_iconst (pc := 27) (v := nI 0) dX9_copyFrom_27 (by decide) ?_
  refine V_aload_n (pc := 28) dX9_copyFrom_28 rfl ?_
  refine V_getR (pc := 29) 9 2 dX9_copyFrom_29 flX9_19 (by decide) h9.o h9.R2 ?_
  refine V_iconst (pc := 32) (v := nI 0) dX9_copyFrom_32 (by decide) ?_
  refine V_bipush (pc := 33) (v := nI 6) dX9_copyFrom_33 (by decide) ?_
  refine V_copy (pc := 35) dX9_copyFrom_35 mlX9_40 natAC stAC izSys (by assumption) (by assumption) (by first | decide | omega) (by first | decide | omega) (by omega) (by omega) (Nat.le_of_ble_eq_true rfl) (Nat.le_of_ble_eq_true rfl) ?_
  refine V_aload_n (pc := 38) dX9_copyFrom_38 rfl ?_
  refine V_getR (pc := 39) 9 3 dX9_copyFrom_39 flX9_22 (by decide) h9u.o h9u.R3 ?_
  refine V_iconst (pc := 42) (v := nI 0) dX9_copyFrom_42 (by decide) ?_
  refine V_aload_n (pc := 43) dX9_copyFrom_43 rfl ?_
  refine V_getR (pc := 44) 9 3 dX9_copyFrom_44 flX9_22 (by decide) h9.o h9.R3 ?_
  refine V_iconst (pc := 47) (v := nI 0) dX9_copyFrom_47 (by decide) ?_
  refine V_bipush (pc := 48) (v := nI 6) dX9_copyFrom_48 (by decide) ?_
  refine V_copy (pc := 50) dX9_copyFrom_50 mlX9_40 natAC stAC izSys (by assumption) (by assumption) (by first | decide | omega) (by first | decide | omega) (by omega) (by omega) (Nat.le_of_ble_eq_true rfl) (Nat.le_of_ble_eq_true rfl) ?_
  refine V_aload_n (pc := 53) dX9_copyFrom_53 rfl ?_
  refine V_getR (pc := 54) 9 4 dX9_copyFrom_54 flX9_25 (by decide) h9u.o h9u.R4 ?_
  refine V_iconst (pc := 57) (v := nI 0) dX9_copyFrom_57 (by decide) ?_
  refine V_aload_n (pc := 58) dX9_copyFrom_58 rfl ?_
  refine V_getR (pc := 59) 9 4 dX9_copyFrom_59 flX9_25 (by decide) h9.o h9.R4 ?_
  refine V_iconst (pc := 62) (v := nI 0) dX9_copyFrom_62 (by decide) ?_
  refine V_bipush (pc := 63) (v := nI 6) dX9_copyFrom_63 (by decide) ?_
  refine V_copy (pc := 65) dX9_copyFrom_65 mlX9_40 natAC stAC izSys (by assumption) (by assumption) (by first | decide | omega) (by first | decide | omega) (by omega) (by omega) (Nat.le_of_ble_eq_true rfl) (Nat.le_of_ble_eq_true rfl) ?_
  refine V_aload_n (pc := 68) dX9_copyFrom_68 rfl ?_
  refine V_getR (pc := 69) 9 5 dX9_copyFrom_69 flX9_28 (by decide) h9u.o h9u.R5 ?_
  refine V_iconst (pc := 72) (v := nI 0) dX9_copyFrom_72 (by decide) ?_
  refine V_aload_n (pc := 73) dX9_copyFrom_73 rfl ?_
  refine V_getR (pc := 74) 9 5 dX9_copyFrom_74 flX9_28 (by decide) h9.o h9.R5 ?_
  refine V_iconst (pc := 77) (v := nI 0) dX9_copyFrom_77 (by decide) ?_
  refine V_bipush (pc := 78) (v := nI 6) dX9_copyFrom_78 (by decide) ?_
  refine V_copy (pc := 80) dX9_copyFrom_80 mlX9_40 natAC stAC izSys (by assumption) (by assumption) (by first | decide | omega) (by first | decide | omega) (by omega) (by omega) (Nat.le_of_ble_eq_true rfl) (Nat.le_of_ble_eq_true rfl) ?_
  refine V_aload_n (pc := 83) dX9_copyFrom_83 rfl ?_
  refine V_getR (pc := 84) 9 6 dX9_copyFrom_84 flX9_31 (by decide) h9u.o h9u.R6 ?_
  refine V_iconst (pc := 87) (v := nI 0) dX9_copyFrom_87 (by decide) ?_
  refine V_aload_n (pc := 88) dX9_copyFrom_88 rfl ?_
  refine V_getR (pc := 89) 9 6 dX9_copyFrom_89 flX9_31 (by decide) h9.o h9.R6 ?_
  refine V_iconst (pc := 92) (v := nI 0) dX9_copyFrom_92 (by decide) ?_
  refine V_iconst (pc := 93) (v := nI 3) dX9_copyFrom_93 (by decide) ?_
  refine V_copy (pc := 94) dX9_copyFrom_94 mlX9_40 natAC stAC izSys (by assumption) (by assumption) (by first | decide | omega) (by first | decide | omega) (by omega) (by omega) (Nat.le_of_ble_eq_true rfl) (Nat.le_of_ble_eq_true rfl) ?_
  refine V_vret (pc := 97) dX9_copyFrom_97 rfl (by first | decide | omega) (by first | decide | omega) ?_
  refine ⟨rfl, rfl, rfl, ⟨?_, fun i hi => ?_, fun i hi => ?_, fun i hi => ?_, fun i hi => ?_, fun i hi => ?_, fun i hi => ?_⟩, fun x hx => ?_⟩
  · rw [upr_row (by omega), upr_row (by omega), upr_row (by omega), upr_row (by omega), upr_row (by omega), upr_row (by omega), up2_self]
  · rw [upr_row (by omega), upr_row (by omega), upr_row (by omega), upr_row (by omega), upr_row (by omega), upr_self, cpy0, if_pos hi, up2_row (by omega)]
  · rw [upr_row (by omega), upr_row (by omega), upr_row (by omega), upr_row (by omega), upr_self, cpy0, if_pos hi, upr_row (by omega), up2_row (by omega)]
  · rw [upr_row (by omega), upr_row (by omega), upr_row (by omega), upr_self, cpy0, if_pos hi, upr_row (by omega), upr_row (by omega), up2_row (by omega)]
  · rw [upr_row (by omega), upr_row (by omega), upr_self, cpy0, if_pos hi, upr_row (by omega), upr_row (by omega), upr_row (by omega), up2_row (by omega)]
  · rw [upr_row (by omega), upr_self, cpy0, if_pos hi, upr_row (by omega), upr_row (by omega), upr_row (by omega), upr_row (by omega), up2_row (by omega)]
  · rw [upr_self, cpy0, if_pos hi, upr_row (by omega), upr_row (by omega), upr_row (by omega), upr_row (by omega), upr_row (by omega), up2_row (by omega)]
  · rw [upr_row (by omega), upr_row (by omega), upr_row (by omega), upr_row (by omega), upr_row (by omega), upr_row (by omega), up2_row (by omega)]
theorem c_X2_copyFrom (h2 : Lay2 E S h) (g2 : Lay2 E S g) (hg : g + 114 < h ∨ h + 114 < g) {w : UT} (hh : HsM I g q w) : C E kX2_copyFrom 2 0 0 [.ref h, .ref g] S I L (fun r S' I' L' => r = none ∧ S = S' ∧ L = L' ∧ HsM I' h q w ∧ Fh h I' I) := by
  obtain ⟨f, hf, e0, e1, e2⟩ := hh
  have hv9 := h2.2.2.2.2.2.2
  have hbr := h2.2.2.2.2.2.1
  have gv9 := g2.2.2.2.2.2.2
  have gbr := g2.2.2.2.2.2.1
  have key : ∀ j, j ≤ 16 → ∀ I', Fh h I' I → I' h 0 = nI w.1 → I' h 1 = nI f → (∀ k, k < j → I' (h + 1) k = I (g + 1) k ∧ VlE I' (h + 3 + 7 * k) I (g + 3 + 7 * k)) → V E kX2_copyFrom (rmOf 2 0 0) (QM E (fun r S' I' L' => r = none ∧ S = S' ∧ L = L' ∧ HsM I' h q w ∧ Fh h I' I) 0 0) 0 0 S I' L 18 [(0, .ref h), (1, .ref g), (2, .int (nI j))] [] := by
    refine loopUp (n := 16) (P := fun j => ∀ I', Fh h I' I → I' h 0 = nI w.1 → I' h 1 = nI f → (∀ k, k < j → I' (h + 1) k = I (g + 1) k ∧ VlE I' (h + 3 + 7 * k) I (g + 3 + 7 * k)) → V E kX2_copyFrom (rmOf 2 0 0) (QM E (fun r S' I' L' => r = none ∧ S = S' ∧ L = L' ∧ HsM I' h q w ∧ Fh h I' I) 0 0) 0 0 S I' L 18 [(0, .ref h), (1, .ref g), (2, .int (nI j))] []) ?_ ?_
    · intro J hF j0 j1 hk
      refine V_iload_n (pc := 18) dX2_copyFrom_18 rfl ?_
      refine V_bipush (pc := 19) (v := nI 16) dX2_copyFrom_19 (by decide) ?_
      refine V_icmp_geN (pc := 21) (tgt := 57) dX2_copyFrom_21 (by decide) (by omega) (by omega) (fun c21 => ?_) (fun n21 => absurd n21 (by omega))
      refine V_vret (pc := 57) dX2_copyFrom_57 rfl (by first | decide | omega) (by first | decide | omega) ?_
      exact ⟨rfl, rfl, rfl, ⟨f, hf, j0, j1, fun k hkw => ⟨(hk _ (by omega)).1.trans (e2 k hkw).1, (e2 k hkw).2.ofE (hk _ (by omega)).2⟩⟩, hF⟩
    · intro j hj ih J hF j0 j1 hk
      have hI1 : ∀ x, x ≠ h + 1 → up2 J (h + 1) j (J (g + 1) j) x = J x := fun x a2 => by rw [up2_row a2]
      refine V_iload_n (pc := 18) dX2_copyFrom_18 rfl ?_
      refine V_bipush (pc := 19) (v := nI 16) dX2_copyFrom_19 (by decide) ?_
      refine V_icmp_geN (pc := 21) (tgt := 57) dX2_copyFrom_21 (by decide) (by omega) (by omega) (fun c21 => absurd c21 (by omega)) (fun n21 => ?_)
      refine V_aload_n (pc := 24) dX2_copyFrom_24 rfl ?_
      refine V_getR (pc := 25) 2 2 dX2_copyFrom_25 flX2_18 (by decide) h2.o h2.R2 ?_
      refine V_iload_n (pc := 28) dX2_copyFrom_28 rfl ?_
      refine V_aload_n (pc := 29) dX2_copyFrom_29 rfl ?_
      refine V_getR (pc := 30) 2 2 dX2_copyFrom_30 flX2_18 (by decide) g2.o g2.R2 ?_
      refine V_iload_n (pc := 33) dX2_copyFrom_33 rfl ?_
      refine V_iaload (pc := 34) dX2_copyFrom_34 g2.A2 (by first | decide | omega) (by omega) ?_
      refine V_iastore (pc := 35) dX2_copyFrom_35 h2.A2 (by first | decide | omega) (by omega) ?_
      refine V_aload_n (pc := 36) dX2_copyFrom_36 rfl ?_
      refine V_getR (pc := 37) 2 3 dX2_copyFrom_37 flX2_24 (by decide) h2.o h2.R3 ?_
      refine V_iload_n (pc := 40) dX2_copyFrom_40 rfl ?_
      refine V_aaload (pc := 41) dX2_copyFrom_41 h2.A3 (by decide) (by first | decide | omega) (by omega) (hbr j (by omega)) ?_
      refine V_aload_n (pc := 42) dX2_copyFrom_42 rfl ?_
      refine V_getR (pc := 43) 2 3 dX2_copyFrom_43 flX2_24 (by decide) g2.o g2.R3 ?_
      refine V_iload_n (pc := 46) dX2_copyFrom_46 rfl ?_
      refine V_aaload (pc := 47) dX2_copyFrom_47 g2.A3 (by decide) (by first | decide | omega) (by omega) (gbr j (by omega)) ?_
      refine V_callV (pc := 48) (ci := 9) (c_X9_copyRaw (hv9 j (by omega)) (gv9 j (by omega)) (by omega)) dX2_copyFrom_48 mlX2_29 mkX9_copyFrom rfl rfl (hv9 j (by omega)).o ⟨by decide, rfl⟩ ⟨Nat.le_of_ble_eq_true rfl, Nat.le_of_ble_eq_true rfl⟩ (Nat.le_of_ble_eq_true rfl) ⟨Nat.le_of_ble_eq_true rfl, Nat.le_of_ble_eq_true rfl⟩ (fun r S' I' L' hp => ?_)
      obtain ⟨rfl, rfl, rfl, hc, hfr⟩ := hp
      refine V_iinc1 (pc := 51) (ls' := [(0, _), (1, _), (2, _)]) dX2_copyFrom_51 rfl (by decide) rfl ?_
      refine V_goto (pc := 54) (tgt := 18) dX2_copyFrom_54 (by decide) ?_
      refine ih _ (fun x hx => ?_) ?_ ?_ (fun k hk2 => ?_)
      · rw [hfr x (by omega), hI1 x (by omega)]; exact hF x hx
      · rw [hfr h (by omega), hI1 h (by omega)]; exact j0
      · rw [hfr h (by omega), hI1 h (by omega)]; exact j1
      · rw [hfr (h + 1) (by omega)]
        by_cases z : k = j
        · subst z
          rw [up2_self]
          exact ⟨congrFun (hF (g + 1) (by omega)) _, hc.cg (fun _ _ _ => rfl) (fun a a1 a2 => by rw [hI1 a (by omega)]; exact (hF a (by omega)).symm)⟩
        · rw [up2_nej z]
          exact ⟨(hk k (by omega)).1, (hk k (by omega)).2.cg (fun a a1 a2 => by rw [hfr a (by omega), hI1 a (by omega)]) (fun _ _ _ => rfl)⟩
  refine C_of (by decide) (Nat.le_of_ble_eq_true rfl) ?_
  refine V_aload_n (pc := 0) dX2_copyFrom_0 rfl ?_
  refine V_aload_n (pc := 1) dX2_copyFrom_1 rfl ?_
  refine V_getIE (pc := 2) 2 0 dX2_copyFrom_2 flX2_9 (by decide) g2.o (e0) ?_
  refine V_putI (pc := 5) 2 0 dX2_copyFrom_5 flX2_9 (by decide) (by decide) (Or.inl rfl) rfl rfl h2.o ?_
  refine V_aload_n (pc := 8) dX2_copyFrom_8 rfl ?_
  refine V_aload_n (pc := 9) dX2_copyFrom_9 rfl ?_
  refine V_getIE (pc := 10) 2 1 dX2_copyFrom_10 flX2_15 (by decide) g2.o ((congrFun (up2_row (by omega)) 1).trans e1) ?_
  refine V_putI (pc := 13) 2 1 dX2_copyFrom_13 flX2_15 (by decide) (by decide) (Or.inl rfl) rfl rfl h2.o ?_
  refine V_iconst (pc := 16) (v := nI 0) dX2_copyFrom_16 (by decide) ?_
  refine V_istore_n (pc := 17) (ls' := [(0, _), (1, _), (2, _)]) dX2_copyFrom_17 (by decide) rfl ?_
  refine key 0 (by omega) _ (fun x hx => ?_) ?_ ?_ (fun k hk => absurd hk (Nat.not_lt_zero k))
  · rw [up2_row (by omega), up2_row (by omega)]
  · rw [up2_nej (by omega), up2_self]
  · rw [up2_self]
/-- all but the history's size and the valley at v -/
def Fhv (h v : Nat) (J I : IT) : Prop := ∀ x, x ≠ h → (x < v ∨ v + 6 < x) → J x = I x
theorem c_X2_takeBack0 (h2 : Lay2 E S h) {w : UT} (hh : HsM I h q w) (h0 : w.1 = 0) : Cd E kX2_takeBack 2 0 0 [.ref h, .ref v] S I L (.int (-1)) S I L := by
  obtain ⟨f, hf, e0, e1, e2⟩ := hh
  refine C_of (by decide) (Nat.le_of_ble_eq_true rfl) ?_
  refine V_aload_n (pc := 0) dX2_takeBack_0 rfl ?_
  refine V_getIE (pc := 1) 2 0 dX2_takeBack_1 flX2_9 (by decide) h2.o (e0) ?_
  refine V_if_neN (pc := 4) (tgt := 9) dX2_takeBack_4 (by decide) (by omega) (fun c4 => absurd c4 (by omega)) (fun n4 => ?_)
  refine V_iconst (pc := 7) (v := (-1)) dX2_takeBack_7 (by decide) ?_
  refine V_iret (pc := 8) dX2_takeBack_8 rfl (by first | decide | omega) (by first | decide | omega) ?_
  exact ⟨rfl, rfl, rfl, rfl⟩
theorem c_X2_takeBack (h2 : Lay2 E S h) (h9 : Lay9 E S v) {w : UT} (hh : HsM I h q w) (h0 : w.1 ≠ 0) (hn : w.1 ≤ 16) (hvh : v + 6 < h ∨ h + 114 < v) : C E kX2_takeBack 2 0 0 [.ref h, .ref v] S I L (fun r S' I' L' => r = some (.int (nI (w.2.2 (w.1 - 1)))) ∧ S = S' ∧ L = L' ∧ HsM I' h q (w.1 - 1, w.2) ∧ VlM I' v (mix q (w.2.1 (w.1 - 1))) ∧ Fhv h v I' I) := by
  obtain ⟨f, hf, e0, e1, e2⟩ := hh
  have hv9 := h2.2.2.2.2.2.2
  have hbr := h2.2.2.2.2.2.1
  have hlast := e2 (w.1 - 1) (by omega)
  refine C_of (by decide) (Nat.le_of_ble_eq_true rfl) ?_
  refine V_aload_n (pc := 0) dX2_takeBack_0 rfl ?_
  refine V_getIE (pc := 1) 2 0 dX2_takeBack_1 flX2_9 (by decide) h2.o (e0) ?_
  refine V_if_neN (pc := 4) (tgt := 9) dX2_takeBack_4 (by decide) (by omega) (fun c4 => ?_) (fun n4 => absurd n4 (by omega))
  refine V_aload_n (pc := 9) dX2_takeBack_9 rfl ?_
  refine V_dup (pc := 10) dX2_takeBack_10 rfl ?_
  refine V_getIE (pc := 11) 2 0 dX2_takeBack_11 flX2_9 (by decide) h2.o (e0) ?_
  refine V_iconst (pc := 14) (v := nI 1) dX2_takeBack_14 (by decide) ?_
  refine V_isubN (pc := 15) dX2_takeBack_15 (by omega) ?_
  refine V_putI (pc := 16) 2 0 dX2_takeBack_16 flX2_9 (by decide) (by decide) (Or.inl rfl) rfl rfl h2.o ?_
  refine V_aload_n (pc := 19) dX2_takeBack_19 rfl ?_
  refine V_getIE (pc := 20) 2 1 dX2_takeBack_20 flX2_15 (by decide) h2.o ((up2_nej (by omega)).trans e1) ?_
  refine V_aload_n (pc := 23) dX2_takeBack_23 rfl ?_
  refine V_getIE (pc := 24) 2 0 dX2_takeBack_24 flX2_9 (by decide) h2.o (up2_self) ?_
  refine V_iaddN (pc := 27) dX2_takeBack_27 ?_
  refine V_bipush (pc := 28) (v := nI 16) dX2_takeBack_28 (by decide) ?_
  refine V_iremN (pc := 30) dX2_takeBack_30 (by omega) (by omega) (by omega) ?_
  refine V_istore_n (pc := 31) (ls' := [(0, _), (1, _), (2, _)]) dX2_takeBack_31 (by decide) rfl ?_
  refine V_aload_n (pc := 32) dX2_takeBack_32 rfl ?_
  refine V_aload_n (pc := 33) dX2_takeBack_33 rfl ?_
  refine V_getR (pc := 34) 2 3 dX2_takeBack_34 flX2_24 (by decide) h2.o h2.R3 ?_
  refine V_iload_n (pc := 37) dX2_takeBack_37 rfl ?_
  refine V_aaload (pc := 38) dX2_takeBack_38 h2.A3 (by decide) (by first | decide | omega) (by omega) (hbr _ (by omega)) ?_
  refine V_callV (pc := 39) (ci := 9) (c_X9_copyFrom h9 (hv9 ((f + (w.1 - 1)) % 16) (by omega)) (hlast.2.cg fun a a1 a2 => up2_row (by omega)) (by omega)) dX2_takeBack_39 mlX2_29 mkX9_copyFrom rfl rfl h9.o ⟨by decide, rfl⟩ ⟨Nat.le_of_ble_eq_true rfl, Nat.le_of_ble_eq_true rfl⟩ (Nat.le_of_ble_eq_true rfl) ⟨Nat.le_of_ble_eq_true rfl, Nat.le_of_ble_eq_true rfl⟩ (fun r S' I' L' hp => ?_)
  obtain ⟨rfl, rfl, rfl, hc, hfr⟩ := hp
  refine V_aload_n (pc := 42) dX2_takeBack_42 rfl ?_
  refine V_getR (pc := 43) 2 2 dX2_takeBack_43 flX2_18 (by decide) h2.o h2.R2 ?_
  refine V_iload_n (pc := 46) dX2_takeBack_46 rfl ?_
  refine V_ialoadE (pc := 47) dX2_takeBack_47 h2.A2 (by first | decide | omega) (by omega) ((congrFun (hfr (h + 1) (by omega)) _).trans ((congrFun (up2_row (by omega)) _).trans hlast.1)) ?_
  refine V_iret (pc := 48) dX2_takeBack_48 rfl (by first | decide | omega) (by first | decide | omega) ?_
  refine ⟨rfl, rfl, rfl, ⟨f, hf, ?_, ?_, fun k hk => ?_⟩, hc, fun x hx hx2 => ?_⟩
  · rw [hfr h (by omega), up2_self]
  · rw [hfr h (by omega), up2_nej (by omega)]; exact e1
  · have hk : k < w.1 - 1 := hk
    have h8 := e2 k (by omega)
    rw [hfr (h + 1) (by omega), up2_ne (by omega)]
    exact ⟨h8.1, h8.2.cg fun a a1 a2 => by rw [hfr a (by omega)]; exact up2_row (by omega)⟩
  · rw [hfr x (by omega)]; exact up2_row (by omega)
theorem c_X9_boxesWith (h9 : Lay9 E S v) (hv : VlM I v q) (hq : wq q) {j t : Nat} (hj : j < 8) (ht : t < 8) : Cd E kX9_boxesWith 1 0 0 [.ref v, .int (nI j), .int (nI t)] S I L (.int (nI (bwt q j t (q 0)))) S I L := by
  have hnb := hq.nb
  refine C_of (by decide) (Nat.le_of_ble_eq_true rfl) ?_
  refine V_iconst (pc := 0) (v := nI 0) dX9_boxesWith_0 (by decide) ?_
  refine V_istore_n (pc := 1) (ls' := [(0, _), (1, _), (2, _), (3, _)]) dX9_boxesWith_1 (by decide) rfl ?_
  refine V_iconst (pc := 2) (v := nI 0) dX9_boxesWith_2 (by decide) ?_
  refine V_istore (pc := 3) (ls' := [(0, _), (1, _), (2, _), (3, _), (4, _)]) dX9_boxesWith_3 (by decide) rfl ?_
  refine loopUp (P := fun n => V E kX9_boxesWith (rmOf 1 0 0) (Qd E (.int (nI (bwt q j t (q 0)))) S I L) 0 0 S I L 5 [(0, .ref v), (1, .int (nI j)), (2, .int (nI t)), (3, .int (nI (bwt q j t n))), (4, .int (nI n))] []) (n := q 0) ?_ ?_ 0 (by omega)
  · skip
    refine V_iload (pc := 5) dX9_boxesWith_5 rfl ?_
    refine V_aload_n (pc := 7) dX9_boxesWith_7 rfl ?_
    refine V_getIE (pc := 8) 9 0 dX9_boxesWith_8 flX9_9 (by decide) h9.o (hv.1) ?_
    refine V_icmp_geN (pc := 11) (tgt := 37) dX9_boxesWith_11 (by decide) (by omega) (by omega) (fun c11 => ?_) (fun n11 => absurd n11 (by omega))
    refine V_iload_n (pc := 37) dX9_boxesWith_37 rfl ?_
    refine V_iret (pc := 38) dX9_boxesWith_38 rfl (by first | decide | omega) (by first | decide | omega) ?_
    exact ⟨rfl, rfl, rfl, rfl⟩
  · intro n hn ih
    have hnt := nt_lt hq (show n < 6 by omega) hj
    have e : nt q n j / 2 ^ t % 2 * 2 ^ n = if decide (nt q n j / 2 ^ t % 2 = 1) = true then 2 ^ n else 0 := by
      rcases Nat.mod_two_eq_zero_or_one (nt q n j / 2 ^ t) with z | z
      · rw [z]; simp
      · rw [z]; simp
    have hp2 : 2 ^ n ≤ 64 := p64 (show n ≤ 6 by omega)
    have hb : nt q n j / 2 ^ t % 2 * 2 ^ n < 2 ^ 32 := by
      have : nt q n j / 2 ^ t % 2 * 2 ^ n ≤ 1 * 2 ^ n := Nat.mul_le_mul_right _ (by omega)
      omega
    rw [bwt_s, ← e] at ih
    refine V_iload (pc := 5) dX9_boxesWith_5 rfl ?_
    refine V_aload_n (pc := 7) dX9_boxesWith_7 rfl ?_
    refine V_getIE (pc := 8) 9 0 dX9_boxesWith_8 flX9_9 (by decide) h9.o (hv.1) ?_
    refine V_icmp_geN (pc := 11) (tgt := 37) dX9_boxesWith_11 (by decide) (by omega) (by omega) (fun c11 => absurd c11 (by omega)) (fun n11 => ?_)
    refine V_iload_n (pc := 14) dX9_boxesWith_14 rfl ?_
    refine V_aload_n (pc := 15) dX9_boxesWith_15 rfl ?_
    refine V_iload (pc := 16) dX9_boxesWith_16 rfl ?_
    refine V_iload_n (pc := 18) dX9_boxesWith_18 rfl ?_
    refine V_callVd (pc := 19) (ci := 9) (c_X9_notesAt h9 hv hq (by omega) hj) dX9_boxesWith_19 mlX9_46 mkX9_notesAt rfl rfl h9.o ⟨by decide, rfl⟩ ⟨Nat.le_of_ble_eq_true rfl, Nat.le_of_ble_eq_true rfl⟩ (Nat.le_of_ble_eq_true rfl) ⟨Nat.le_of_ble_eq_true rfl, Nat.le_of_ble_eq_true rfl⟩ ?_
    refine V_iload_n (pc := 22) dX9_boxesWith_22 rfl ?_
    refine V_ishrN (pc := 23) dX9_boxesWith_23 (by omega) (by omega) ?_
    refine V_iconst (pc := 24) (v := nI 1) dX9_boxesWith_24 (by decide) ?_
    refine V_iand1 (pc := 25) dX9_boxesWith_25 ?_
    refine V_iload (pc := 26) dX9_boxesWith_26 rfl ?_
    refine V_ishlN (pc := 28) dX9_boxesWith_28 (by omega) hb ?_
    refine V_iorN (pc := 29) dX9_boxesWith_29 ?_
    refine V_istore_n (pc := 30) (ls' := [(0, _), (1, _), (2, _), (3, _), (4, _)]) dX9_boxesWith_30 (by decide) rfl ?_
    refine V_iinc1 (pc := 31) (ls' := [(0, _), (1, _), (2, _), (3, _), (4, _)]) dX9_boxesWith_31 rfl (by decide) rfl ?_
    refine V_goto (pc := 34) (tgt := 5) dX9_boxesWith_34 (by decide) ?_
    exact ih
theorem hrd_s (q : Nat → Nat) (b k : Nat) : hrd q b (k + 1) = (hrd q b k && decide (nt q b (q (92 + 3 * k)) / 2 ^ q (92 + 3 * k + 1) % 2 = q (92 + 3 * k + 2))) := rfl
theorem c_X10_boxesHeard {tt : Nat} (h10 : Lay10 E S g tt) (hv : VgM I g q) (hq : wq q) : Cd E kX10_boxesHeard 2 0 0 [.ref g] S I L (.int (nI (whc q))) S I L := by
  have hnb := hq.nb
  have hnh := hq.nh
  have hp2 : 2 ^ q 0 ≤ 64 := p64 (show q 0 ≤ 6 by omega)
  have hp1 : 1 ≤ 2 ^ q 0 := Nat.one_le_two_pow
  have e0 : 1 * 2 ^ q 0 - 1 = bts (fun b => hrd q b 0) (q 0) := by rw [Nat.one_mul, ← bts_true]; rfl
  refine C_of (by decide) (Nat.le_of_ble_eq_true rfl) ?_
  refine V_iconst (pc := 0) (v := nI 1) dX10_boxesHeard_0 (by decide) ?_
  refine V_aload_n (pc := 1) dX10_boxesHeard_1 rfl ?_
  refine V_getR (pc := 2) 10 0 dX10_boxesHeard_2 flX10_12 (by decide) h10.o h10.R0 ?_
  refine V_getIE (pc := 5) 9 0 dX10_boxesHeard_5 flX10_75 (by decide) h10.O0.o (hv.1.1) ?_
  refine V_ishlN (pc := 8) dX10_boxesHeard_8 (by omega) (by omega) ?_
  refine V_iconst (pc := 9) (v := nI 1) dX10_boxesHeard_9 (by decide) ?_
  refine V_isubN (pc := 10) dX10_boxesHeard_10 (by omega) ?_
  refine V_istore_n (pc := 11) (ls' := [(0, _), (1, _)]) dX10_boxesHeard_11 (by decide) rfl ?_
  refine V_iload_n (pc := 12) dX10_boxesHeard_12 rfl ?_
  refine V_istore_n (pc := 13) (ls' := [(0, _), (1, _), (2, _)]) dX10_boxesHeard_13 (by decide) rfl ?_
  refine V_iconst (pc := 14) (v := nI 0) dX10_boxesHeard_14 (by decide) ?_
  refine V_istore_n (pc := 15) (ls' := [(0, _), (1, _), (2, _), (3, _)]) dX10_boxesHeard_15 (by decide) rfl ?_
  refine V_loc [0, 2, 3] rfl ?_
  rw [e0]
  refine loopUp (P := fun n => ∀ ls, ls = [(0, .ref g), (2, .int (nI (bts (fun b => hrd q b n) (q 0)))), (3, .int (nI n))] → V E kX10_boxesHeard (rmOf 2 0 0) (Qd E (.int (nI (whc q))) S I L) 0 0 S I L 16 ls []) (n := q 2) ?_ ?_ 0 (by omega) _ rfl
  · intro ls hls
    subst hls
    refine V_iload_n (pc := 16) dX10_boxesHeard_16 rfl ?_
    refine V_aload_n (pc := 17) dX10_boxesHeard_17 rfl ?_
    refine V_getIE (pc := 18) 10 4 dX10_boxesHeard_18 flX10_29 (by decide) h10.o (hv.2.2.2.2.1) ?_
    refine V_icmp_geN (pc := 21) (tgt := 73) dX10_boxesHeard_21 (by decide) (by omega) (by omega) (fun c21 => ?_) (fun n21 => absurd n21 (by omega))
    refine V_iload_n (pc := 73) dX10_boxesHeard_73 rfl ?_
    refine V_iret (pc := 74) dX10_boxesHeard_74 rfl (by first | decide | omega) (by first | decide | omega) ?_
    exact ⟨rfl, rfl, rfl, rfl⟩
  · intro n hn ih ls hls
    subst hls
    have hh := hq.he n (by omega)
    have hm := hv.2.2.2.2.2.1 n (by omega)
    have hlt := bts_lt (fun b => hrd q b n) (q 0)
    refine V_iload_n (pc := 16) dX10_boxesHeard_16 rfl ?_
    refine V_aload_n (pc := 17) dX10_boxesHeard_17 rfl ?_
    refine V_getIE (pc := 18) 10 4 dX10_boxesHeard_18 flX10_29 (by decide) h10.o (hv.2.2.2.2.1) ?_
    refine V_icmp_geN (pc := 21) (tgt := 73) dX10_boxesHeard_21 (by decide) (by omega) (by omega) (fun c21 => absurd c21 (by omega)) (fun n21 => ?_)
    refine V_aload_n (pc := 24) dX10_boxesHeard_24 rfl ?_
    refine V_getR (pc := 25) 10 0 dX10_boxesHeard_25 flX10_12 (by decide) h10.o h10.R0 ?_
    refine V_aload_n (pc := 28) dX10_boxesHeard_28 rfl ?_
    refine V_getR (pc := 29) 10 5 dX10_boxesHeard_29 flX10_32 (by decide) h10.o h10.R5 ?_
    refine V_iload_n (pc := 32) dX10_boxesHeard_32 rfl ?_
    refine V_ialoadE (pc := 33) dX10_boxesHeard_33 h10.A5 (by first | decide | omega) (by omega) (hm.1) ?_
    refine V_aload_n (pc := 34) dX10_boxesHeard_34 rfl ?_
    refine V_getR (pc := 35) 10 6 dX10_boxesHeard_35 flX10_35 (by decide) h10.o h10.R6 ?_
    refine V_iload_n (pc := 38) dX10_boxesHeard_38 rfl ?_
    refine V_ialoadE (pc := 39) dX10_boxesHeard_39 h10.A6 (by first | decide | omega) (by omega) (hm.2.1) ?_
    refine V_callVd (pc := 40) (ci := 9) (c_X9_boxesWith h10.O0 hv.1 hq hh.1 hh.2.1) dX10_boxesHeard_40 mlX10_78 mkX9_boxesWith rfl rfl h10.O0.o ⟨by decide, rfl⟩ ⟨Nat.le_of_ble_eq_true rfl, Nat.le_of_ble_eq_true rfl⟩ (Nat.le_of_ble_eq_true rfl) ⟨Nat.le_of_ble_eq_true rfl, Nat.le_of_ble_eq_true rfl⟩ ?_
    refine V_istore (pc := 43) (ls' := [(0, _), (2, _), (3, _), (4, _)]) dX10_boxesHeard_43 (by decide) rfl ?_
    refine V_iload_n (pc := 45) dX10_boxesHeard_45 rfl ?_
    refine V_aload_n (pc := 46) dX10_boxesHeard_46 rfl ?_
    refine V_getR (pc := 47) 10 7 dX10_boxesHeard_47 flX10_38 (by decide) h10.o h10.R7 ?_
    refine V_iload_n (pc := 50) dX10_boxesHeard_50 rfl ?_
    refine V_ialoadE (pc := 51) dX10_boxesHeard_51 h10.A7 (by first | decide | omega) (by omega) (hm.2.2) ?_
    refine V_iconst (pc := 52) (v := nI 1) dX10_boxesHeard_52 (by decide) ?_
    refine V_icmp_neN (pc := 53) (tgt := 61) dX10_boxesHeard_53 (by decide) (by omega) (by omega) (fun c53 => ?_) (fun n53 => ?_)
    · skip
      refine V_iload (pc := 61) dX10_boxesHeard_61 rfl ?_
      refine V_iconst (pc := 63) (v := (-1)) dX10_boxesHeard_63 (by decide) ?_
      refine V_ixor (pc := 64) dX10_boxesHeard_64 ?_
      refine V_iandX (pc := 65) dX10_boxesHeard_65 (by omega) ?_
      refine V_istore_n (pc := 66) (ls' := [(0, _), (2, _), (3, _), (4, _)]) dX10_boxesHeard_66 (by decide) rfl ?_
      refine V_loc [0, 1, 2] rfl ?_
      refine V_iinc1 (pc := 67) (ls' := [(0, _), (2, _), (3, _)]) dX10_boxesHeard_67 rfl (by decide) rfl ?_
      refine V_goto (pc := 70) (tgt := 16) dX10_boxesHeard_70 (by decide) ?_
      refine ih _ ?_
      congr 5
      first
        | (unfold bwt; rw [bts_and]; exact bts_cong fun b hb => by rw [hrd_s, n53])
        | (unfold bwt; rw [bts_andn _ _ (by omega)]; exact bts_cong fun b hb => by
            rw [hrd_s]
            congr 1
            have h01 : q (92 + 3 * n + 2) = 0 := by omega
            rw [h01]
            rcases Nat.mod_two_eq_zero_or_one (nt q b (q (92 + 3 * n)) / 2 ^ q (92 + 3 * n + 1)) with z | z
            · rw [z]; rfl
            · rw [z]; rfl)
    · skip
      refine V_iload (pc := 56) dX10_boxesHeard_56 rfl ?_
      refine V_goto (pc := 58) (tgt := 65) dX10_boxesHeard_58 (by decide) ?_
      refine V_iandN (pc := 65) dX10_boxesHeard_65 ?_
      refine V_istore_n (pc := 66) (ls' := [(0, _), (2, _), (3, _), (4, _)]) dX10_boxesHeard_66 (by decide) rfl ?_
      refine V_loc [0, 1, 2] rfl ?_
      refine V_iinc1 (pc := 67) (ls' := [(0, _), (2, _), (3, _)]) dX10_boxesHeard_67 rfl (by decide) rfl ?_
      refine V_goto (pc := 70) (tgt := 16) dX10_boxesHeard_70 (by decide) ?_
      refine ih _ ?_
      congr 5
      first
        | (unfold bwt; rw [bts_and]; exact bts_cong fun b hb => by rw [hrd_s, n53])
        | (unfold bwt; rw [bts_andn _ _ (by omega)]; exact bts_cong fun b hb => by
            rw [hrd_s]
            congr 1
            have h01 : q (92 + 3 * n + 2) = 0 := by omega
            rw [h01]
            rcases Nat.mod_two_eq_zero_or_one (nt q b (q (92 + 3 * n)) / 2 ^ q (92 + 3 * n + 1)) with z | z
            · rw [z]; rfl
            · rw [z]; rfl)
end CH
