/-! THE CLASS: generations -/
theorem setq_same {q : Nat → Nat} {i v : Nat} (h : q i = v) : setq q i v = q := by
  funext j; unfold setq; split
  · rename_i e; rw [e, h]
  · rfl
theorem bn1_in {y : Int32} (h1 : ¬ y < nI 1) (h2 : y ≤ nI 60) : bn1 y = true := by
  unfold bn1
  apply decide_eq_true
  have h3 := Int32.le_iff_toInt_le.mp (Int32.not_lt.mp h1)
  have h4 := Int32.le_iff_toInt_le.mp h2
  rw [nI_toInt (by decide)] at h3 h4
  omega
theorem bn1_out {y : Int32} (h : y < nI 1 ∨ ¬ y ≤ nI 60) : bn1 y = false := by
  unfold bn1
  apply decide_eq_false
  intro z
  rcases h with h | h
  · have h3 := Int32.lt_iff_toInt_lt.mp h
    rw [nI_toInt (by decide)] at h3
    omega
  · exact h (Int32.le_iff_toInt_le.mpr (by rw [nI_toInt (by decide)]; omega))
section CT
variable {E : EnT} {S : ST} {I : IT} {L : LT} {B : Nat} {A : AT} {p w jj tt dd : Nat} {q : Nat → Nat}
theorem c_X1_draw (h1 : Lay1 E S p w jj tt dd) {s n : Nat} (hs : s < 2000000) (hn : 0 < n ∧ n < 2 ^ 31) (h2 : I p 2 = nI s) : Cd E kX1_draw 0 0 0 [.ref p, .int (nI n)] S I L (.int (nI (drw s % n))) S (up2 I p 2 (nI (drw s))) L := by
  have hd := drw_lt s
  have e1 : lN s * 1103 + 12345 - (lN s * 1103 + 12345) / 1000003 * 1000003 = lN (drw s) := by
    have e : lN s * 1103 + 12345 = lN (s * 1103 + 12345) := by
      rw [show (1103 : Int64) = lN 1103 from rfl, show (12345 : Int64) = lN 12345 from rfl, lN_mul, lN_add]
    rw [e, show (1000003 : Int64) = lN 1000003 from rfl]
    exact pk_lRem (by omega) (by omega) (by omega)
  refine C_of (by decide) (Nat.le_of_ble_eq_true rfl) ?_
  refine V_aload_n (pc := 0) dX1_draw_0 rfl ?_
  refine V_aload_n (pc := 1) dX1_draw_1 rfl ?_
  refine V_getIE (pc := 2) 1 2 dX1_draw_2 flX1_18 (by decide) h1.o (h2) ?_
  refine V_i2lN (pc := 5) dX1_draw_5 (by omega) ?_
  refine V_ldc2 (pc := 6) dX1_draw_6 coX1_58 ?_
  refine V_lmul (pc := 9) dX1_draw_9 ?_
  refine V_ldc2 (pc := 10) dX1_draw_10 coX1_60 ?_
  refine V_ladd (pc := 13) dX1_draw_13 ?_
  refine V_ldc2 (pc := 14) dX1_draw_14 coX1_62 ?_
  refine V_lrem (pc := 17) dX1_draw_17 (by decide) ?_
  rw [e1]
  refine V_l2i (pc := 18) dX1_draw_18 rfl ?_
  rw [lN_i]
  refine V_putI (pc := 19) 1 2 dX1_draw_19 flX1_18 (by decide) (by decide) (Or.inl rfl) rfl rfl h1.o ?_
  refine V_iload_n (pc := 22) dX1_draw_22 rfl ?_
  refine V_if_leN (pc := 23) (tgt := 35) dX1_draw_23 (by decide) (by omega) (fun c23 => absurd c23 (by omega)) (fun n23 => ?_)
  refine V_aload_n (pc := 26) dX1_draw_26 rfl ?_
  refine V_getIE (pc := 27) 1 2 dX1_draw_27 flX1_18 (by decide) h1.o (up2_self) ?_
  refine V_iload_n (pc := 30) dX1_draw_30 rfl ?_
  refine V_iremN (pc := 31) dX1_draw_31 (by omega) (by omega) (by omega) ?_
  refine V_goto (pc := 32) (tgt := 36) dX1_draw_32 (by decide) ?_
  refine V_iret (pc := 36) dX1_draw_36 rfl (by first | decide | omega) (by first | decide | omega) ?_
  exact ⟨rfl, rfl, rfl, rfl⟩
theorem c_X1_touch (h1 : Lay1 E S p w jj tt dd) (hv : VlM I (p + 1) q) (hq : wq q) {b j t how : Nat} (hb : b < 6) (hj : j < 8) (ht : t < 8) (hh : how < 3) : C E kX1_touch 1 0 0 [.ref p, .int (nI b), .int (nI j), .int (nI t), .int (nI how)] S I L (fun r S' I' L' => r = none ∧ S = S' ∧ L = L' ∧ VlM I' (p + 1) (tch q b j t how) ∧ ∀ x, (x < p + 1 ∨ p + 7 < x) → I' x = I x) := by
  have hpi := hq.pi b j hb hj
  have hbr := hq.br b hb
  have hsp := hq.sp b hb
  have hp2 := p2_8 t ht
  have e8 : 8 + 8 * b + j = 8 + (b * 8 + j) := by omega
  refine C_of (by decide) (Nat.le_of_ble_eq_true rfl) ?_
  have hc : how = 0 ∨ how = 1 ∨ how = 2 := by omega
  rcases hc with rfl | rfl | rfl
  · skip
    refine V_iload (pc := 0) dX1_touch_0 rfl ?_
    refine V_lookup (pc := 2) (off := 26) (tgt := 28) dX1_touch_2 (by decide) (by decide) (by decide) ?_
    refine V_aload_n (pc := 28) dX1_touch_28 rfl ?_
    refine V_getR (pc := 29) 1 1 dX1_touch_29 flX1_12 (by decide) h1.o h1.R1 ?_
    refine V_getR (pc := 32) 9 1 dX1_touch_32 flX1_64 (by decide) h1.O1.o h1.O1.R1 ?_
    refine V_iload_n (pc := 35) dX1_touch_35 rfl ?_
    refine V_bipush (pc := 36) (v := nI 8) dX1_touch_36 (by decide) ?_
    refine V_imulN (pc := 38) dX1_touch_38 ?_
    refine V_iload_n (pc := 39) dX1_touch_39 rfl ?_
    refine V_iaddN (pc := 40) dX1_touch_40 ?_
    refine V_dup2 (pc := 41) dX1_touch_41 rfl rfl ?_
    refine V_ialoadE (pc := 42) dX1_touch_42 h1.O1.A1 (by first | decide | omega) (by omega) (hv.pi hb hj) ?_
    refine V_iconst (pc := 43) (v := nI 1) dX1_touch_43 (by decide) ?_
    refine V_iload_n (pc := 44) dX1_touch_44 rfl ?_
    refine V_ishlN (pc := 45) dX1_touch_45 (by omega) (by omega) ?_
    refine V_iconst (pc := 46) (v := (-1)) dX1_touch_46 (by decide) ?_
    refine V_ixor (pc := 47) dX1_touch_47 ?_
    refine V_iandX (pc := 48) dX1_touch_48 hpi ?_
    rw [andn_bit _ hpi _ ht]
    refine V_iastore (pc := 49) dX1_touch_49 h1.O1.A1 (by first | decide | omega) (by omega) ?_
    refine V_goto (pc := 50) (tgt := 95) dX1_touch_50 (by decide) ?_
    refine V_vret (pc := 95) dX1_touch_95 rfl (by first | decide | omega) (by first | decide | omega) ?_
    refine ⟨rfl, rfl, rfl, ?_, fun x hx => up2_row (by omega)⟩
    have h5 := hv.u1 (b := b * 8 + j) (n := if q (8 + 8 * b + j) / 2 ^ t % 2 = 1 then q (8 + 8 * b + j) - 2 ^ t else q (8 + 8 * b + j)) (by omega)
    rw [← e8] at h5
    unfold tch
    rw [if_pos rfl]
    by_cases z : q (8 + 8 * b + j) / 2 ^ t % 2 = 1
    · rw [if_pos z] at h5 ⊢; rw [if_pos z]; exact h5
    · rw [if_neg z] at h5 ⊢; rw [if_neg z]; rw [setq_same rfl] at h5; exact h5
  · skip
    refine V_iload (pc := 0) dX1_touch_0 rfl ?_
    refine V_lookup (pc := 2) (off := 51) (tgt := 53) dX1_touch_2 (by decide) (by decide) (by decide) ?_
    refine V_aload_n (pc := 53) dX1_touch_53 rfl ?_
    refine V_getR (pc := 54) 1 1 dX1_touch_54 flX1_12 (by decide) h1.o h1.R1 ?_
    refine V_getR (pc := 57) 9 2 dX1_touch_57 flX1_67 (by decide) h1.O1.o h1.O1.R2 ?_
    refine V_iload_n (pc := 60) dX1_touch_60 rfl ?_
    refine V_dup2 (pc := 61) dX1_touch_61 rfl rfl ?_
    refine V_ialoadE (pc := 62) dX1_touch_62 h1.O1.A2 (by first | decide | omega) (by omega) (hv.2.2.1 b hb) ?_
    refine V_iconst (pc := 63) (v := nI 1) dX1_touch_63 (by decide) ?_
    refine V_iload_n (pc := 64) dX1_touch_64 rfl ?_
    refine V_ishlN (pc := 65) dX1_touch_65 (by omega) (by omega) ?_
    refine V_iorN (pc := 66) dX1_touch_66 ?_
    refine V_iastore (pc := 67) dX1_touch_67 h1.O1.A2 (by first | decide | omega) (by omega) ?_
    refine V_goto (pc := 68) (tgt := 95) dX1_touch_68 (by decide) ?_
    refine V_vret (pc := 95) dX1_touch_95 rfl (by first | decide | omega) (by first | decide | omega) ?_
    refine ⟨rfl, rfl, rfl, ?_, fun x hx => up2_row (by omega)⟩
    have h5 := hv.u2 (b := b) (n := q (56 + b) ||| 1 * 2 ^ t) hb
    unfold tch
    rw [if_neg (by omega), if_pos rfl]
    unfold bor
    rw [Nat.one_mul] at h5 ⊢
    exact h5
  · skip
    refine V_iload (pc := 0) dX1_touch_0 rfl ?_
    refine V_lookup (pc := 2) (off := 69) (tgt := 71) dX1_touch_2 (by decide) (by decide) (by decide) ?_
    refine V_aload_n (pc := 71) dX1_touch_71 rfl ?_
    refine V_getR (pc := 72) 1 1 dX1_touch_72 flX1_12 (by decide) h1.o h1.R1 ?_
    refine V_getR (pc := 75) 9 3 dX1_touch_75 flX1_70 (by decide) h1.O1.o h1.O1.R3 ?_
    refine V_iload_n (pc := 78) dX1_touch_78 rfl ?_
    refine V_iconst (pc := 79) (v := nI 0) dX1_touch_79 (by decide) ?_
    refine V_aload_n (pc := 80) dX1_touch_80 rfl ?_
    refine V_getR (pc := 81) 1 1 dX1_touch_81 flX1_12 (by decide) h1.o h1.R1 ?_
    refine V_getR (pc := 84) 9 3 dX1_touch_84 flX1_70 (by decide) h1.O1.o h1.O1.R3 ?_
    refine V_iload_n (pc := 87) dX1_touch_87 rfl ?_
    refine V_ialoadE (pc := 88) dX1_touch_88 h1.O1.A3 (by first | decide | omega) (by omega) (hv.2.2.2.1 b hb) ?_
    refine V_iconst (pc := 89) (v := nI 1) dX1_touch_89 (by decide) ?_
    refine V_isub (pc := 90) dX1_touch_90 ?_
    refine V_mmax (pc := 91) dX1_touch_91 mlX1_73 (Nat.le_of_ble_eq_true rfl) (Nat.le_of_ble_eq_true rfl) ⟨Nat.le_of_ble_eq_true rfl, Nat.le_of_ble_eq_true rfl⟩ ?_
    rw [max_sub _ (by omega) _ (by omega)]
    refine V_iastore (pc := 94) dX1_touch_94 h1.O1.A3 (by first | decide | omega) (by omega) ?_
    refine V_vret (pc := 95) dX1_touch_95 rfl (by first | decide | omega) (by first | decide | omega) ?_
    refine ⟨rfl, rfl, rfl, ?_, fun x hx => up2_row (by omega)⟩
    unfold tch
    rw [if_neg (by omega), if_neg (by omega)]
    exact hv.u3 hb
theorem c_X1_live (h11 : Lay11 E S B) (hR : CR E S B I A) (hA : wfA A) {s n : Nat} (hs : s < 2000000) (hn : n ≤ 60) (h0 : 0 < aq A 0) : C E kX1_live 5 0 0 [.ref (B + 321), .ref (B + 36), .int (nI s), .int (nI n)] S I L (fun r S' I' L' => r = some (.int (nI (gnr (lwf A) (aq A) s n).2.2)) ∧ S = S' ∧ L = L' ∧ VlM I' (B + 321 + 1) (gnr (lwf A) (aq A) s n).1 ∧ ∀ x, x ≠ B + 321 → (x < B + 322 ∨ B + 328 < x) → x ≠ B + 79 → x ≠ B + 81 → I' x = I x) := by
  have hq := hA.q
  have hlw := hA.law
  have h1 := h11.O5
  have h10 := h11.O0
  have key : ∀ k, k ≤ n → ∀ J, (∀ x, x ≠ B + 321 → (x < B + 322 ∨ B + 328 < x) → x ≠ B + 79 → x ≠ B + 81 → J x = I x) → VlM J (B + 321 + 1) (gnr (lwf A) (aq A) s k).1 → J (B + 321) 2 = nI (gnr (lwf A) (aq A) s k).2.1 → V E kX1_live (rmOf 5 0 0) (QM E (fun r S' I' L' => r = some (.int (nI (gnr (lwf A) (aq A) s n).2.2)) ∧ S = S' ∧ L = L' ∧ VlM I' (B + 321 + 1) (gnr (lwf A) (aq A) s n).1 ∧ ∀ x, x ≠ B + 321 → (x < B + 322 ∨ B + 328 < x) → x ≠ B + 79 → x ≠ B + 81 → I' x = I x) 0 0) 0 0 S J L 22 [(0, .ref (B + 321)), (1, .ref (B + 36)), (2, .int (nI s)), (3, .int (nI n)), (4, .int (nI (gnr (lwf A) (aq A) s k).2.2)), (5, .int (nI k))] [] := by
    refine loopUp (n := n) (P := fun k => ∀ J, (∀ x, x ≠ B + 321 → (x < B + 322 ∨ B + 328 < x) → x ≠ B + 79 → x ≠ B + 81 → J x = I x) → VlM J (B + 321 + 1) (gnr (lwf A) (aq A) s k).1 → J (B + 321) 2 = nI (gnr (lwf A) (aq A) s k).2.1 → V E kX1_live (rmOf 5 0 0) (QM E (fun r S' I' L' => r = some (.int (nI (gnr (lwf A) (aq A) s n).2.2)) ∧ S = S' ∧ L = L' ∧ VlM I' (B + 321 + 1) (gnr (lwf A) (aq A) s n).1 ∧ ∀ x, x ≠ B + 321 → (x < B + 322 ∨ B + 328 < x) → x ≠ B + 79 → x ≠ B + 81 → I' x = I x) 0 0) 0 0 S J L 22 [(0, .ref (B + 321)), (1, .ref (B + 36)), (2, .int (nI s)), (3, .int (nI n)), (4, .int (nI (gnr (lwf A) (aq A) s k).2.2)), (5, .int (nI k))] []) ?_ ?_
    · intro J hF hv h2
      refine V_iload (pc := 22) dX1_live_22 rfl ?_
      refine V_iload_n (pc := 24) dX1_live_24 rfl ?_
      refine V_icmp_geN (pc := 25) (tgt := 113) dX1_live_25 (by decide) (by omega) (by omega) (fun c25 => ?_) (fun n25 => absurd n25 (by omega))
      refine V_iload (pc := 113) dX1_live_113 rfl ?_
      refine V_iret (pc := 115) dX1_live_115 rfl (by first | decide | omega) (by first | decide | omega) ?_
      exact ⟨rfl, rfl, rfl, hv, hF⟩
    · intro k hk ih J hF hv h2
      obtain ⟨g1, g2, g3, g4⟩ := gnr_ok (law := lwf A) hq h0 hs k
      have e1 : gnr (lwf A) (aq A) s (k + 1) = gn1 (lwf A) (gnr (lwf A) (aq A) s k) := rfl
      rw [e1] at ih
      by_cases h5 : (gnr (lwf A) (aq A) s k).1 5 < 999
      · generalize gnr (lwf A) (aq A) s k = g at hv h2 g1 g2 g3 g4 h5 ih ⊢
        have h50 : g.1 (5 + 0) < 999 := h5
        have hb0 : 0 < g.1 0 := by rw [g2 0 (by omega)]; exact h0
        have hb6 := g1.nb
        have d1 := drw_lt g.2.1
        have d2 := drw_lt (drw g.2.1)
        have d3 := drw_lt (drw (drw g.2.1))
        have d4 := drw_lt (drw (drw (drw g.2.1)))
        have m1 : drw g.2.1 % g.1 0 < g.1 0 := Nat.mod_lt _ hb0
        have m2 : drw (drw g.2.1) % 8 < 8 := Nat.mod_lt _ (by omega)
        have m3 : drw (drw (drw g.2.1)) % 8 < 8 := Nat.mod_lt _ (by omega)
        have m4 : drw (drw (drw (drw g.2.1))) % 3 < 3 := Nat.mod_lt _ (by omega)
        have ht := tch_ok (t := drw (drw (drw g.2.1)) % 8) (how := drw (drw (drw (drw g.2.1))) % 3) g1 m1 m2 m3
        have hg : gn1 (lwf A) g = (psq (lwf A) (tch g.1 (drw g.2.1 % g.1 0) (drw (drw g.2.1) % 8) (drw (drw (drw g.2.1)) % 8) (drw (drw (drw (drw g.2.1))) % 3)), drw (drw (drw (drw g.2.1))), g.2.2 + pse (tch g.1 (drw g.2.1 % g.1 0) (drw (drw g.2.1) % 8) (drw (drw (drw g.2.1)) % 8) (drw (drw (drw (drw g.2.1))) % 3))) := by unfold gn1; rw [if_pos h5]
        rw [hg] at ih
        generalize hJ4 : up2 (up2 (up2 (up2 J (B + 321) 2 (nI (drw g.2.1))) (B + 321) 2 (nI (drw (drw g.2.1)))) (B + 321) 2 (nI (drw (drw (drw g.2.1))))) (B + 321) 2 (nI (drw (drw (drw (drw g.2.1))))) = J4
        have j4 : ∀ x, x ≠ B + 321 → J4 x = J x := fun x hx => by rw [← hJ4, up2_row hx, up2_row hx, up2_row hx, up2_row hx]
        have j42 : J4 (B + 321) 2 = nI (drw (drw (drw (drw g.2.1)))) := by rw [← hJ4, up2_self]
        refine V_iload (pc := 22) dX1_live_22 rfl ?_
        refine V_iload_n (pc := 24) dX1_live_24 rfl ?_
        refine V_icmp_geN (pc := 25) (tgt := 113) dX1_live_25 (by decide) (by omega) (by omega) (fun c25 => absurd c25 (by omega)) (fun n25 => ?_)
        refine V_aload_n (pc := 28) dX1_live_28 rfl ?_
        refine V_getR (pc := 29) 1 1 dX1_live_29 flX1_12 (by decide) h1.o h1.R1 ?_
        refine V_getR (pc := 32) 9 6 dX1_live_32 flX1_33 (by decide) h1.O1.o h1.O1.R6 ?_
        refine V_iconst (pc := 35) (v := nI 0) dX1_live_35 (by decide) ?_
        refine V_ialoadE (pc := 36) dX1_live_36 h1.O1.A6 (by first | decide | omega) (by omega) (hv.2.2.2.2.2.2 0 (by omega)) ?_
        refine V_sipush (pc := 37) (v := nI 999) dX1_live_37 (by decide) ?_
        refine V_icmp_geN (pc := 40) (tgt := 113) dX1_live_40 (by decide) (by omega) (by omega) (fun c40 => absurd c40 (by omega)) (fun n40 => ?_)
        refine V_aload_n (pc := 43) dX1_live_43 rfl ?_
        refine V_aload_n (pc := 44) dX1_live_44 rfl ?_
        refine V_getR (pc := 45) 1 1 dX1_live_45 flX1_12 (by decide) h1.o h1.R1 ?_
        refine V_getIE (pc := 48) 9 0 dX1_live_48 flX1_37 (by decide) h1.O1.o (hv.1) ?_
        refine V_callVd (pc := 51) (ci := 1) (c_X1_draw h1 g3 ⟨hb0, by omega⟩ h2) dX1_live_51 mlX1_40 mkX1_draw rfl rfl h1.o ⟨by decide, rfl⟩ ⟨Nat.le_of_ble_eq_true rfl, Nat.le_of_ble_eq_true rfl⟩ (Nat.le_of_ble_eq_true rfl) ⟨Nat.le_of_ble_eq_true rfl, Nat.le_of_ble_eq_true rfl⟩ ?_
        refine V_istore (pc := 54) (ls' := [(0, _), (1, _), (2, _), (3, _), (4, _), (5, _), (6, _)]) dX1_live_54 (by decide) rfl ?_
        refine V_aload_n (pc := 56) dX1_live_56 rfl ?_
        refine V_bipush (pc := 57) (v := nI 8) dX1_live_57 (by decide) ?_
        refine V_callVd (pc := 59) (ci := 1) (c_X1_draw h1 (by omega) ⟨by omega, by omega⟩ up2_self) dX1_live_59 mlX1_40 mkX1_draw rfl rfl h1.o ⟨by decide, rfl⟩ ⟨Nat.le_of_ble_eq_true rfl, Nat.le_of_ble_eq_true rfl⟩ (Nat.le_of_ble_eq_true rfl) ⟨Nat.le_of_ble_eq_true rfl, Nat.le_of_ble_eq_true rfl⟩ ?_
        refine V_istore (pc := 62) (ls' := [(0, _), (1, _), (2, _), (3, _), (4, _), (5, _), (6, _), (7, _)]) dX1_live_62 (by decide) rfl ?_
        refine V_aload_n (pc := 64) dX1_live_64 rfl ?_
        refine V_bipush (pc := 65) (v := nI 8) dX1_live_65 (by decide) ?_
        refine V_callVd (pc := 67) (ci := 1) (c_X1_draw h1 (by omega) ⟨by omega, by omega⟩ up2_self) dX1_live_67 mlX1_40 mkX1_draw rfl rfl h1.o ⟨by decide, rfl⟩ ⟨Nat.le_of_ble_eq_true rfl, Nat.le_of_ble_eq_true rfl⟩ (Nat.le_of_ble_eq_true rfl) ⟨Nat.le_of_ble_eq_true rfl, Nat.le_of_ble_eq_true rfl⟩ ?_
        refine V_istore (pc := 70) (ls' := [(0, _), (1, _), (2, _), (3, _), (4, _), (5, _), (6, _), (7, _), (8, _)]) dX1_live_70 (by decide) rfl ?_
        refine V_aload_n (pc := 72) dX1_live_72 rfl ?_
        refine V_iload (pc := 73) dX1_live_73 rfl ?_
        refine V_iload (pc := 75) dX1_live_75 rfl ?_
        refine V_iload (pc := 77) dX1_live_77 rfl ?_
        refine V_aload_n (pc := 79) dX1_live_79 rfl ?_
        refine V_iconst (pc := 80) (v := nI 3) dX1_live_80 (by decide) ?_
        refine V_callVd (pc := 81) (ci := 1) (c_X1_draw h1 (by omega) ⟨by omega, by omega⟩ up2_self) dX1_live_81 mlX1_40 mkX1_draw rfl rfl h1.o ⟨by decide, rfl⟩ ⟨Nat.le_of_ble_eq_true rfl, Nat.le_of_ble_eq_true rfl⟩ (Nat.le_of_ble_eq_true rfl) ⟨Nat.le_of_ble_eq_true rfl, Nat.le_of_ble_eq_true rfl⟩ ?_
        rw [hJ4]
        refine V_callV (pc := 84) (ci := 1) (c_X1_touch h1 (hv.cg fun a a1 a2 => j4 a (by omega)) g1 (by omega) m2 m3 m4) dX1_live_84 mlX1_44 mkX1_touch rfl rfl h1.o ⟨by decide, rfl⟩ ⟨Nat.le_of_ble_eq_true rfl, Nat.le_of_ble_eq_true rfl⟩ (Nat.le_of_ble_eq_true rfl) ⟨Nat.le_of_ble_eq_true rfl, Nat.le_of_ble_eq_true rfl⟩ (fun r S' I' L' hp => ?_)
        obtain ⟨rfl, rfl, rfl, hv5, hf5⟩ := hp
        have hF5 : ∀ x, x ≠ B + 321 → (x < B + 322 ∨ B + 328 < x) → x ≠ B + 79 → x ≠ B + 81 → I' x = I x := fun x a1 a2 a3 a4 => by rw [hf5 x (by omega), j4 x a1]; exact hF x a1 a2 a3 a4
        have hvg : VgM I' (B + 36) (aq A) := hR.1.cg fun a a1 a2 => hF5 a (by omega) (by omega) (by omega) (by omega)
        have hlw5 : LwC E S I' B (B + 36) (B + 30) (aq A) (alw A) := hR.2.1.cg fun y hy => hF5 y (by omega) (by omega) (by omega) (by omega)
        have y5 := ht.2 5 (by omega)
        refine V_iload (pc := 87) dX1_live_87 rfl ?_
        refine V_aload_n (pc := 89) dX1_live_89 rfl ?_
        refine V_getR (pc := 90) 1 0 dX1_live_90 flX1_22 (by decide) h1.o h1.R0 ?_
        refine V_aload_n (pc := 93) dX1_live_93 rfl ?_
        refine V_getR (pc := 94) 1 1 dX1_live_94 flX1_12 (by decide) h1.o h1.R1 ?_
        refine V_aload_n (pc := 97) dX1_live_97 rfl ?_
        refine V_callV (pc := 98) (ci := 10) (c_X10_lawInForce h10 hvg hq hlw5) dX1_live_98 mlX1_48 mkX10_lawInForce rfl rfl h10.o ⟨by decide, rfl⟩ ⟨Nat.le_of_ble_eq_true rfl, Nat.le_of_ble_eq_true rfl⟩ (Nat.le_of_ble_eq_true rfl) ⟨Nat.le_of_ble_eq_true rfl, Nat.le_of_ble_eq_true rfl⟩ (fun r S' I' L' hp => ?_)
        obtain ⟨⟨a, rfl, hT, hta⟩, rfl, rfl, rfl⟩ := hp
        unfold txa at hta
        refine V_callV (pc := 101) (ci := 0) (c_X0_liveYear h11.O4 h1.O1 hv5 ht.1 hT hlw.1 (by omega) ⟨fun z z1 z2 => by omega, fun z z1 z2 => by omega, by omega⟩) dX1_live_101 mlX1_52 mkX0_liveYear rfl rfl h1.O0.o ⟨by decide, rfl⟩ ⟨Nat.le_of_ble_eq_true rfl, Nat.le_of_ble_eq_true rfl⟩ (Nat.le_of_ble_eq_true rfl) ⟨Nat.le_of_ble_eq_true rfl, Nat.le_of_ble_eq_true rfl⟩ (fun r S' I' L' hp => ?_)
        obtain ⟨rfl, rfl, rfl, hv6, hf6⟩ := hp
        refine V_iaddN (pc := 104) dX1_live_104 ?_
        refine V_istore (pc := 105) (ls' := [(0, _), (1, _), (2, _), (3, _), (4, _), (5, _), (6, _), (7, _), (8, _)]) dX1_live_105 (by decide) rfl ?_
        refine V_loc [0, 1, 2, 3, 4, 5] rfl ?_
        refine V_iinc1 (pc := 107) (ls' := [(0, _), (1, _), (2, _), (3, _), (4, _), (5, _)]) dX1_live_107 rfl (by decide) rfl ?_
        refine V_goto (pc := 110) (tgt := 22) dX1_live_110 (by decide) ?_
        refine ih _ (fun x a1 a2 a3 a4 => by rw [hf6 x (by omega) (by omega) (by omega)]; exact hF5 x a1 a2 a3 a4) hv6 ?_
        rw [hf6 (B + 321) (by omega) (by omega) (by omega), hf5 (B + 321) (by omega)]
        exact j42
      · have hst := gnr_stop (law := lwf A) (q := aq A) (s := s) h5 (n - k)
        rw [show k + (n - k) = n by omega] at hst
        rw [hst]
        have h6 := g1.ye
        have h50 : ¬ (gnr (lwf A) (aq A) s k).1 (5 + 0) < 999 := h5
        have h60 : (gnr (lwf A) (aq A) s k).1 (5 + 0) ≤ 999 := h6
        refine V_iload (pc := 22) dX1_live_22 rfl ?_
        refine V_iload_n (pc := 24) dX1_live_24 rfl ?_
        refine V_icmp_geN (pc := 25) (tgt := 113) dX1_live_25 (by decide) (by omega) (by omega) (fun c25 => absurd c25 (by omega)) (fun n25 => ?_)
        refine V_aload_n (pc := 28) dX1_live_28 rfl ?_
        refine V_getR (pc := 29) 1 1 dX1_live_29 flX1_12 (by decide) h1.o h1.R1 ?_
        refine V_getR (pc := 32) 9 6 dX1_live_32 flX1_33 (by decide) h1.O1.o h1.O1.R6 ?_
        refine V_iconst (pc := 35) (v := nI 0) dX1_live_35 (by decide) ?_
        refine V_ialoadE (pc := 36) dX1_live_36 h1.O1.A6 (by first | decide | omega) (by omega) (hv.2.2.2.2.2.2 0 (by omega)) ?_
        refine V_sipush (pc := 37) (v := nI 999) dX1_live_37 (by decide) ?_
        refine V_icmp_geN (pc := 40) (tgt := 113) dX1_live_40 (by decide) (by omega) (by omega) (fun c40 => ?_) (fun n40 => absurd n40 (by omega))
        refine V_iload (pc := 113) dX1_live_113 rfl ?_
        refine V_iret (pc := 115) dX1_live_115 rfl (by first | decide | omega) (by first | decide | omega) ?_
        exact ⟨rfl, rfl, rfl, hv, hF⟩
  refine C_of (by decide) (Nat.le_of_ble_eq_true rfl) ?_
  refine V_aload_n (pc := 0) dX1_live_0 rfl ?_
  refine V_getR (pc := 1) 1 1 dX1_live_1 flX1_12 (by decide) h1.o h1.R1 ?_
  refine V_aload_n (pc := 4) dX1_live_4 rfl ?_
  refine V_getR (pc := 5) 10 0 dX1_live_5 flX1_26 (by decide) h10.o h10.R0 ?_
  refine V_callV (pc := 8) (ci := 9) (c_X9_copyFrom h1.O1 h10.O0 hR.1.1 (by omega)) dX1_live_8 mlX1_29 mkX9_copyFrom rfl rfl h1.O1.o ⟨by decide, rfl⟩ ⟨Nat.le_of_ble_eq_true rfl, Nat.le_of_ble_eq_true rfl⟩ (Nat.le_of_ble_eq_true rfl) ⟨Nat.le_of_ble_eq_true rfl, Nat.le_of_ble_eq_true rfl⟩ (fun r S' I' L' hp => ?_)
  obtain ⟨rfl, rfl, rfl, hc, hf⟩ := hp
  refine V_aload_n (pc := 11) dX1_live_11 rfl ?_
  refine V_iload_n (pc := 12) dX1_live_12 rfl ?_
  refine V_putI (pc := 13) 1 2 dX1_live_13 flX1_18 (by decide) (by decide) (Or.inl rfl) rfl rfl h1.o ?_
  refine V_iconst (pc := 16) (v := nI 0) dX1_live_16 (by decide) ?_
  refine V_istore (pc := 17) (ls' := [(0, _), (1, _), (2, _), (3, _), (4, _)]) dX1_live_17 (by decide) rfl ?_
  refine V_iconst (pc := 19) (v := nI 0) dX1_live_19 (by decide) ?_
  refine V_istore (pc := 20) (ls' := [(0, _), (1, _), (2, _), (3, _), (4, _), (5, _)]) dX1_live_20 (by decide) rfl ?_
  refine key 0 (by omega) _ (fun x a1 a2 a3 a4 => by rw [up2_row a1]; exact hf x (by omega)) (hc.cg fun a a1 a2 => up2_row (by omega)) up2_self
theorem c_X11_generations (h11 : Lay11 E S B) (hR : CR E S B I A) (hA : wfA A) {x y : Int32} : Cc E kX11_generations 6 [.ref B, .int x, .int y] S I L B (.int (spGen A x y).1) (spGen A x y).2 := by
  have hq := hA.q
  have hnb := hq.nb
  refine C_of (by decide) (Nat.le_of_ble_eq_true rfl) ?_
  refine V_iload_n (pc := 0) dX11_generations_0 rfl ?_
  refine V_if_lt (pc := 1) (tgt := 22) dX11_generations_1 (by decide) (fun c1 => ?_) (fun n1 => ?_)
  · skip
    have hb : ¬ (bnd x 1000001 = true ∧ bn1 y = true) := by
      first
        | exact fun w => by rw [bnd_lo c1] at w; exact absurd w.1 (by decide)
        | exact fun w => by rw [bnd_gt (n := 1000000) (by omega) c8] at w; exact absurd w.1 (by decide)
        | exact fun w => by rw [bn1_out (Or.inl c13)] at w; exact absurd w.2 (by decide)
        | exact fun w => by rw [bn1_out (Or.inr n19)] at w; exact absurd w.2 (by decide)
        | fail
    rw [spGen, if_neg hb]
    refine V_aload_n (pc := 22) dX11_generations_22 rfl ?_
    refine V_iconst (pc := 23) (v := (-1)) dX11_generations_23 (by decide) ?_
    refine V_callVd (pc := 24) (ci := 11) (c_X11_refuse (r := 1) h11 (by decide) (by decide) (by decide)) dX11_generations_24 mlX11_112 mkX11_refuse rfl rfl h11.o ⟨by decide, rfl⟩ ⟨Nat.le_of_ble_eq_true rfl, Nat.le_of_ble_eq_true rfl⟩ (Nat.le_of_ble_eq_true rfl) ⟨Nat.le_of_ble_eq_true rfl, Nat.le_of_ble_eq_true rfl⟩ ?_
    refine V_iret (pc := 27) dX11_generations_27 rfl (by first | decide | omega) (by first | decide | omega) ?_
    exact ⟨rfl, rfl, hR.hrf, rfuC_Fr FrC.rf⟩
  · skip
    refine V_iload_n (pc := 4) dX11_generations_4 rfl ?_
    refine V_ldcw (pc := 5) dX11_generations_5 coX11_384 ?_
    refine V_icmp_gt (pc := 8) (tgt := 22) dX11_generations_8 (by decide) (fun c8 => ?_) (fun n8 => ?_)
    · skip
      have hb : ¬ (bnd x 1000001 = true ∧ bn1 y = true) := by
        first
          | exact fun w => by rw [bnd_lo c1] at w; exact absurd w.1 (by decide)
          | exact fun w => by rw [bnd_gt (n := 1000000) (by omega) c8] at w; exact absurd w.1 (by decide)
          | exact fun w => by rw [bn1_out (Or.inl c13)] at w; exact absurd w.2 (by decide)
          | exact fun w => by rw [bn1_out (Or.inr n19)] at w; exact absurd w.2 (by decide)
          | fail
      rw [spGen, if_neg hb]
      refine V_aload_n (pc := 22) dX11_generations_22 rfl ?_
      refine V_iconst (pc := 23) (v := (-1)) dX11_generations_23 (by decide) ?_
      refine V_callVd (pc := 24) (ci := 11) (c_X11_refuse (r := 1) h11 (by decide) (by decide) (by decide)) dX11_generations_24 mlX11_112 mkX11_refuse rfl rfl h11.o ⟨by decide, rfl⟩ ⟨Nat.le_of_ble_eq_true rfl, Nat.le_of_ble_eq_true rfl⟩ (Nat.le_of_ble_eq_true rfl) ⟨Nat.le_of_ble_eq_true rfl, Nat.le_of_ble_eq_true rfl⟩ ?_
      refine V_iret (pc := 27) dX11_generations_27 rfl (by first | decide | omega) (by first | decide | omega) ?_
      exact ⟨rfl, rfl, hR.hrf, rfuC_Fr FrC.rf⟩
    · skip
      refine V_iload_n (pc := 11) dX11_generations_11 rfl ?_
      refine V_iconst (pc := 12) (v := nI 1) dX11_generations_12 (by decide) ?_
      refine V_icmp_lt (pc := 13) (tgt := 22) dX11_generations_13 (by decide) (fun c13 => ?_) (fun n13 => ?_)
      · skip
        have hb : ¬ (bnd x 1000001 = true ∧ bn1 y = true) := by
          first
            | exact fun w => by rw [bnd_lo c1] at w; exact absurd w.1 (by decide)
            | exact fun w => by rw [bnd_gt (n := 1000000) (by omega) c8] at w; exact absurd w.1 (by decide)
            | exact fun w => by rw [bn1_out (Or.inl c13)] at w; exact absurd w.2 (by decide)
            | exact fun w => by rw [bn1_out (Or.inr n19)] at w; exact absurd w.2 (by decide)
            | fail
        rw [spGen, if_neg hb]
        refine V_aload_n (pc := 22) dX11_generations_22 rfl ?_
        refine V_iconst (pc := 23) (v := (-1)) dX11_generations_23 (by decide) ?_
        refine V_callVd (pc := 24) (ci := 11) (c_X11_refuse (r := 1) h11 (by decide) (by decide) (by decide)) dX11_generations_24 mlX11_112 mkX11_refuse rfl rfl h11.o ⟨by decide, rfl⟩ ⟨Nat.le_of_ble_eq_true rfl, Nat.le_of_ble_eq_true rfl⟩ (Nat.le_of_ble_eq_true rfl) ⟨Nat.le_of_ble_eq_true rfl, Nat.le_of_ble_eq_true rfl⟩ ?_
        refine V_iret (pc := 27) dX11_generations_27 rfl (by first | decide | omega) (by first | decide | omega) ?_
        exact ⟨rfl, rfl, hR.hrf, rfuC_Fr FrC.rf⟩
      · skip
        refine V_iload_n (pc := 16) dX11_generations_16 rfl ?_
        refine V_bipush (pc := 17) (v := nI 60) dX11_generations_17 (by decide) ?_
        refine V_icmp_le (pc := 19) (tgt := 28) dX11_generations_19 (by decide) (fun c19 => ?_) (fun n19 => ?_)
        · skip
          have hb1 : bnd x 1000001 = true := bnd_ngt (n := 1000000) (by omega) n1 n8
          have hb2 : bn1 y = true := bn1_in n13 c19
          obtain ⟨s, hs, hx⟩ := bnd_ex (by omega) hb1
          obtain ⟨n, hn0, hn, hy⟩ := bn1_ex hb2
          rw [spGen, if_pos ⟨hb1, hb2⟩]
          subst hx hy
          rw [cln_nI (by omega), cln_nI (by omega)]
          refine V_aload_n (pc := 28) dX11_generations_28 rfl ?_
          refine V_getR (pc := 29) 11 0 dX11_generations_29 flX11_91 (by decide) h11.o h11.R0 ?_
          refine V_getR (pc := 32) 10 0 dX11_generations_32 flX11_116 (by decide) h11.O0.o h11.O0.R0 ?_
          refine V_getIE (pc := 35) 9 0 dX11_generations_35 flX11_120 (by decide) h11.O0.O0.o (hR.1.1.1) ?_
          refine V_if_neN (pc := 38) (tgt := 48) dX11_generations_38 (by decide) (by omega) (fun c38 => ?_) (fun n38 => ?_)
          · skip
            rw [if_neg c38]
            refine V_aload_n (pc := 48) dX11_generations_48 rfl ?_
            refine V_aload_n (pc := 49) dX11_generations_49 rfl ?_
            refine V_getR (pc := 50) 11 5 dX11_generations_50 flX11_108 (by decide) h11.o h11.R5 ?_
            refine V_aload_n (pc := 53) dX11_generations_53 rfl ?_
            refine V_getR (pc := 54) 11 0 dX11_generations_54 flX11_91 (by decide) h11.o h11.R0 ?_
            refine V_iload_n (pc := 57) dX11_generations_57 rfl ?_
            refine V_iload_n (pc := 58) dX11_generations_58 rfl ?_
            refine V_callV (pc := 59) (ci := 1) (c_X1_live h11 hR hA (by omega) hn (by omega)) dX11_generations_59 mlX11_385 mkX1_live rfl rfl h11.O5.o ⟨by decide, rfl⟩ ⟨Nat.le_of_ble_eq_true rfl, Nat.le_of_ble_eq_true rfl⟩ (Nat.le_of_ble_eq_true rfl) ⟨Nat.le_of_ble_eq_true rfl, Nat.le_of_ble_eq_true rfl⟩ (fun r S' I' L' hp => ?_)
            obtain ⟨rfl, rfl, rfl, hv, hf⟩ := hp
            refine V_callVd (pc := 62) (ci := 11) (c_X11_grant h11) dX11_generations_62 mlX11_137 mkX11_grant rfl rfl h11.o ⟨by decide, rfl⟩ ⟨Nat.le_of_ble_eq_true rfl, Nat.le_of_ble_eq_true rfl⟩ (Nat.le_of_ble_eq_true rfl) ⟨Nat.le_of_ble_eq_true rfl, Nat.le_of_ble_eq_true rfl⟩ ?_
            refine V_iret (pc := 65) dX11_generations_65 rfl (by first | decide | omega) (by first | decide | omega) ?_
            refine ⟨rfl, rfl, CR.hok ?_, FrC.up (fun y hy => ⟨hf y (by omega) (by omega) (by omega) (by omega), rfl⟩) (by omega)⟩
            obtain ⟨r1, r2, r3, r4, r5, r6, r7, r8⟩ := hR
            obtain ⟨g1, g2, g3, g4⟩ := gnr_ok (law := lwf A) hq (show 0 < aq A 0 by omega) (show s < 2000000 by omega) n
            refine ⟨r1.cg fun a a1 a2 => hf a (by omega) (by omega) (by omega) (by omega), r2.cg fun y hy => hf y (by omega) (by omega) (by omega) (by omega), r3.cg fun y a1 a2 => hf y (by omega) (by omega) (by omega) (by omega), r4.cg fun y hy => hf y (by omega) (by omega) (by omega) (by omega), r5.cg fun y hy => hf y (by omega) (by omega) (by omega) (by omega), r6.cg fun y hy => hf y (by omega) (by omega) (by omega) (by omega), ⟨_, g1, hv, ?_, fun b hb => ⟨rfl, rfl, rfl⟩⟩, r8⟩
            rw [g2 0 (by omega)]; rfl
          · skip
            refine V_aload_n (pc := 41) dX11_generations_41 rfl ?_
            refine V_bipush (pc := 42) (v := (-3)) dX11_generations_42 (by decide) ?_
            refine V_callVd (pc := 44) (ci := 11) (c_X11_refuse (r := 3) h11 (by decide) (by decide) (by decide)) dX11_generations_44 mlX11_112 mkX11_refuse rfl rfl h11.o ⟨by decide, rfl⟩ ⟨Nat.le_of_ble_eq_true rfl, Nat.le_of_ble_eq_true rfl⟩ (Nat.le_of_ble_eq_true rfl) ⟨Nat.le_of_ble_eq_true rfl, Nat.le_of_ble_eq_true rfl⟩ ?_
            refine V_iret (pc := 47) dX11_generations_47 rfl (by first | decide | omega) (by first | decide | omega) ?_
            rw [if_pos n38]
            exact ⟨rfl, rfl, hR.hrf, rfuC_Fr FrC.rf⟩
        · skip
          have hb : ¬ (bnd x 1000001 = true ∧ bn1 y = true) := by
            first
              | exact fun w => by rw [bnd_lo c1] at w; exact absurd w.1 (by decide)
              | exact fun w => by rw [bnd_gt (n := 1000000) (by omega) c8] at w; exact absurd w.1 (by decide)
              | exact fun w => by rw [bn1_out (Or.inl c13)] at w; exact absurd w.2 (by decide)
              | exact fun w => by rw [bn1_out (Or.inr n19)] at w; exact absurd w.2 (by decide)
              | fail
          rw [spGen, if_neg hb]
          refine V_aload_n (pc := 22) dX11_generations_22 rfl ?_
          refine V_iconst (pc := 23) (v := (-1)) dX11_generations_23 (by decide) ?_
          refine V_callVd (pc := 24) (ci := 11) (c_X11_refuse (r := 1) h11 (by decide) (by decide) (by decide)) dX11_generations_24 mlX11_112 mkX11_refuse rfl rfl h11.o ⟨by decide, rfl⟩ ⟨Nat.le_of_ble_eq_true rfl, Nat.le_of_ble_eq_true rfl⟩ (Nat.le_of_ble_eq_true rfl) ⟨Nat.le_of_ble_eq_true rfl, Nat.le_of_ble_eq_true rfl⟩ ?_
          refine V_iret (pc := 27) dX11_generations_27 rfl (by first | decide | omega) (by first | decide | omega) ?_
          exact ⟨rfl, rfl, hR.hrf, rfuC_Fr FrC.rf⟩
theorem c_X11_drawn (h11 : Lay11 E S B) (hR : CR E S B I A) (hA : wfA A) {x y : Int32} : Cc E kX11_drawn 2 [.ref B, .int x, .int y] S I L B (.int (spDrawn A x y)) A := by
  obtain ⟨p, hq, hv, hp0, hpd⟩ := hR.2.2.2.2.2.2.1
  have hnb := hq.nb
  refine C_of (by decide) (Nat.le_of_ble_eq_true rfl) ?_
  by_cases hx : bnd x ((adr A).1 - 1) = true
  · rw [← hp0] at hx
    obtain ⟨b, hb, rfl⟩ := bnd_ex (by omega) hx
    have hd := hpd b hb
    by_cases hy : bnd y 3 = true
    · obtain ⟨j, hj, rfl⟩ := bnd_ex (by omega) hy
      rw [spDrawn, ← hp0, if_pos ⟨hx, hy⟩, cln_nI (by omega), cln_nI (by omega)]
      have hc : j = 0 ∨ j = 1 ∨ j = 2 := by omega
      rcases hc with rfl | rfl | rfl
      · skip
        refine V_aload_n (pc := 0) dX11_drawn_0 rfl ?_
        refine V_getR (pc := 1) 11 5 dX11_drawn_1 flX11_108 (by decide) h11.o h11.R5 ?_
        refine V_getR (pc := 4) 1 1 dX11_drawn_4 flX11_388 (by decide) h11.O5.o h11.O5.R1 ?_
        refine V_iload_n (pc := 7) dX11_drawn_7 rfl ?_
        refine V_callVd (pc := 8) (ci := 9) (c_X9_hasBox h11.O5.O1 hv hq) dX11_drawn_8 mlX11_140 mkX9_hasBox rfl rfl h11.O5.O1.o ⟨by decide, rfl⟩ ⟨Nat.le_of_ble_eq_true rfl, Nat.le_of_ble_eq_true rfl⟩ (Nat.le_of_ble_eq_true rfl) ⟨Nat.le_of_ble_eq_true rfl, Nat.le_of_ble_eq_true rfl⟩ ?_
        refine V_if_neB (pc := 11) (tgt := 16) dX11_drawn_11 (by decide) (fun c11 => ?_) (fun n11 => absurd n11 (by rw [hx]; decide))
        refine V_iload_n (pc := 16) dX11_drawn_16 rfl ?_
        refine V_tableIn (pc := 17) (off := 27) (tgt := 44) dX11_drawn_17 (by decide) (by decide) (by decide) (by decide) ?_
        refine V_aload_n (pc := 44) dX11_drawn_44 rfl ?_
        refine V_getR (pc := 45) 11 5 dX11_drawn_45 flX11_108 (by decide) h11.o h11.R5 ?_
        refine V_getR (pc := 48) 1 1 dX11_drawn_48 flX11_388 (by decide) h11.O5.o h11.O5.R1 ?_
        refine V_iload_n (pc := 51) dX11_drawn_51 rfl ?_
        refine V_callVd (pc := 52) (ci := 9) (c_X9_notes h11.O5.O1 hv hq (by omega)) dX11_drawn_52 mlX11_144 mkX9_notes rfl rfl h11.O5.O1.o ⟨by decide, rfl⟩ ⟨Nat.le_of_ble_eq_true rfl, Nat.le_of_ble_eq_true rfl⟩ (Nat.le_of_ble_eq_true rfl) ⟨Nat.le_of_ble_eq_true rfl, Nat.le_of_ble_eq_true rfl⟩ ?_
        refine V_iret (pc := 55) dX11_drawn_55 rfl (by first | decide | omega) (by first | decide | omega) ?_
        exact ⟨by rw [hd.1], rfl, hR, FrC.rf⟩
      · skip
        refine V_aload_n (pc := 0) dX11_drawn_0 rfl ?_
        refine V_getR (pc := 1) 11 5 dX11_drawn_1 flX11_108 (by decide) h11.o h11.R5 ?_
        refine V_getR (pc := 4) 1 1 dX11_drawn_4 flX11_388 (by decide) h11.O5.o h11.O5.R1 ?_
        refine V_iload_n (pc := 7) dX11_drawn_7 rfl ?_
        refine V_callVd (pc := 8) (ci := 9) (c_X9_hasBox h11.O5.O1 hv hq) dX11_drawn_8 mlX11_140 mkX9_hasBox rfl rfl h11.O5.O1.o ⟨by decide, rfl⟩ ⟨Nat.le_of_ble_eq_true rfl, Nat.le_of_ble_eq_true rfl⟩ (Nat.le_of_ble_eq_true rfl) ⟨Nat.le_of_ble_eq_true rfl, Nat.le_of_ble_eq_true rfl⟩ ?_
        refine V_if_neB (pc := 11) (tgt := 16) dX11_drawn_11 (by decide) (fun c11 => ?_) (fun n11 => absurd n11 (by rw [hx]; decide))
        refine V_iload_n (pc := 16) dX11_drawn_16 rfl ?_
        refine V_tableIn (pc := 17) (off := 39) (tgt := 56) dX11_drawn_17 (by decide) (by decide) (by decide) (by decide) ?_
        refine V_aload_n (pc := 56) dX11_drawn_56 rfl ?_
        refine V_getR (pc := 57) 11 5 dX11_drawn_57 flX11_108 (by decide) h11.o h11.R5 ?_
        refine V_getR (pc := 60) 1 1 dX11_drawn_60 flX11_388 (by decide) h11.O5.o h11.O5.R1 ?_
        refine V_getR (pc := 63) 9 3 dX11_drawn_63 flX11_134 (by decide) h11.O5.O1.o h11.O5.O1.R3 ?_
        refine V_iload_n (pc := 66) dX11_drawn_66 rfl ?_
        refine V_ialoadE (pc := 67) dX11_drawn_67 h11.O5.O1.A3 (by first | decide | omega) (by omega) (hv.2.2.2.1 b (by omega)) ?_
        refine V_iret (pc := 68) dX11_drawn_68 rfl (by first | decide | omega) (by first | decide | omega) ?_
        exact ⟨by rw [hd.2.1], rfl, hR, FrC.rf⟩
      · skip
        refine V_aload_n (pc := 0) dX11_drawn_0 rfl ?_
        refine V_getR (pc := 1) 11 5 dX11_drawn_1 flX11_108 (by decide) h11.o h11.R5 ?_
        refine V_getR (pc := 4) 1 1 dX11_drawn_4 flX11_388 (by decide) h11.O5.o h11.O5.R1 ?_
        refine V_iload_n (pc := 7) dX11_drawn_7 rfl ?_
        refine V_callVd (pc := 8) (ci := 9) (c_X9_hasBox h11.O5.O1 hv hq) dX11_drawn_8 mlX11_140 mkX9_hasBox rfl rfl h11.O5.O1.o ⟨by decide, rfl⟩ ⟨Nat.le_of_ble_eq_true rfl, Nat.le_of_ble_eq_true rfl⟩ (Nat.le_of_ble_eq_true rfl) ⟨Nat.le_of_ble_eq_true rfl, Nat.le_of_ble_eq_true rfl⟩ ?_
        refine V_if_neB (pc := 11) (tgt := 16) dX11_drawn_11 (by decide) (fun c11 => ?_) (fun n11 => absurd n11 (by rw [hx]; decide))
        refine V_iload_n (pc := 16) dX11_drawn_16 rfl ?_
        refine V_tableIn (pc := 17) (off := 52) (tgt := 69) dX11_drawn_17 (by decide) (by decide) (by decide) (by decide) ?_
        refine V_aload_n (pc := 69) dX11_drawn_69 rfl ?_
        refine V_getR (pc := 70) 11 5 dX11_drawn_70 flX11_108 (by decide) h11.o h11.R5 ?_
        refine V_getR (pc := 73) 1 1 dX11_drawn_73 flX11_388 (by decide) h11.O5.o h11.O5.R1 ?_
        refine V_getR (pc := 76) 9 5 dX11_drawn_76 flX11_153 (by decide) h11.O5.O1.o h11.O5.O1.R5 ?_
        refine V_iload_n (pc := 79) dX11_drawn_79 rfl ?_
        refine V_ialoadE (pc := 80) dX11_drawn_80 h11.O5.O1.A5 (by first | decide | omega) (by omega) (hv.2.2.2.2.2.1 b (by omega)) ?_
        refine V_iret (pc := 81) dX11_drawn_81 rfl (by first | decide | omega) (by first | decide | omega) ?_
        exact ⟨by rw [hd.2.2], rfl, hR, FrC.rf⟩
    · rw [spDrawn, if_neg (fun z => hy z.2)]
      refine V_aload_n (pc := 0) dX11_drawn_0 rfl ?_
      refine V_getR (pc := 1) 11 5 dX11_drawn_1 flX11_108 (by decide) h11.o h11.R5 ?_
      refine V_getR (pc := 4) 1 1 dX11_drawn_4 flX11_388 (by decide) h11.O5.o h11.O5.R1 ?_
      refine V_iload_n (pc := 7) dX11_drawn_7 rfl ?_
      refine V_callVd (pc := 8) (ci := 9) (c_X9_hasBox h11.O5.O1 hv hq) dX11_drawn_8 mlX11_140 mkX9_hasBox rfl rfl h11.O5.O1.o ⟨by decide, rfl⟩ ⟨Nat.le_of_ble_eq_true rfl, Nat.le_of_ble_eq_true rfl⟩ (Nat.le_of_ble_eq_true rfl) ⟨Nat.le_of_ble_eq_true rfl, Nat.le_of_ble_eq_true rfl⟩ ?_
      refine V_if_neB (pc := 11) (tgt := 16) dX11_drawn_11 (by decide) (fun c11 => ?_) (fun n11 => absurd n11 (by rw [hx]; decide))
      refine V_iload_n (pc := 16) dX11_drawn_16 rfl ?_
      refine V_tableOut (pc := 17) (tgt := 82) dX11_drawn_17 (out_of (m := 2) hy (by omega)) (by decide) ?_
      refine V_iconst (pc := 82) (v := (-1)) dX11_drawn_82 (by decide) ?_
      refine V_iret (pc := 83) dX11_drawn_83 rfl (by first | decide | omega) (by first | decide | omega) ?_
      exact ⟨rfl, rfl, hR, FrC.rf⟩
  · rw [spDrawn, if_neg (fun z => hx z.1)]
    rw [← hp0] at hx
    refine V_aload_n (pc := 0) dX11_drawn_0 rfl ?_
    refine V_getR (pc := 1) 11 5 dX11_drawn_1 flX11_108 (by decide) h11.o h11.R5 ?_
    refine V_getR (pc := 4) 1 1 dX11_drawn_4 flX11_388 (by decide) h11.O5.o h11.O5.R1 ?_
    refine V_iload_n (pc := 7) dX11_drawn_7 rfl ?_
    refine V_callVd (pc := 8) (ci := 9) (c_X9_hasBox h11.O5.O1 hv hq) dX11_drawn_8 mlX11_140 mkX9_hasBox rfl rfl h11.O5.O1.o ⟨by decide, rfl⟩ ⟨Nat.le_of_ble_eq_true rfl, Nat.le_of_ble_eq_true rfl⟩ (Nat.le_of_ble_eq_true rfl) ⟨Nat.le_of_ble_eq_true rfl, Nat.le_of_ble_eq_true rfl⟩ ?_
    refine V_if_neB (pc := 11) (tgt := 16) dX11_drawn_11 (by decide) (fun c11 => absurd c11 (by exact fun z => hx z)) (fun n11 => ?_)
    refine V_iconst (pc := 14) (v := (-1)) dX11_drawn_14 (by decide) ?_
    refine V_iret (pc := 15) dX11_drawn_15 rfl (by first | decide | omega) (by first | decide | omega) ?_
    exact ⟨rfl, rfl, hR, FrC.rf⟩
end CT
