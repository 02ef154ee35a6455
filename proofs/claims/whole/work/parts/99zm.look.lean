/-! THE CLASS: orders begin, are dropped, look around -/
def PWd (W : Nat) (w : WT) (n : Nat) (J I : IT) : Prop := Fx W J I ∧ ∀ j, wdk true j → (j < 12 + n ∨ (18 ≤ j ∧ j < 18 + n)) → J W j = Int32.ofInt (w j)
theorem wdk_t {j : Nat} : wdk true j ↔ j < 24 ∧ 7 ≤ j ∧ j ≠ 8 := by unfold wdk; rw [if_pos rfl]
theorem PWd.st {W n : Nat} {w : WT} {J I : IT} {v1 v2 : Int32} (h : PWd W w n J I) (hn : n < 6) (h1 : v1 = Int32.ofInt (w (12 + n))) (h2 : v2 = Int32.ofInt (w (18 + n))) : PWd W w (n + 1) (up2 (up2 J W (12 + n) v1) W (18 + n) v2) I := by
  refine ⟨fun x hx => by rw [up2_row hx, up2_row hx]; exact h.1 x hx, fun j hj hc => ?_⟩
  by_cases e2 : j = 18 + n
  · subst e2; rw [up2_self]; exact h2
  · rw [up2_nej e2]
    by_cases e1 : j = 12 + n
    · subst e1; rw [up2_self]; exact h1
    · rw [up2_nej e1]; exact h.2 j hj (by omega)
theorem pred1_I (lt : Nat) : pred1 lt = Int32.ofInt ((lt : Int) - 1) := by
  cases lt with
  | zero => decide
  | succ n => rw [pred1_s, i32_N]; congr 1; omega
def FrN (B : Nat) (I' I : IT) : Prop := ∀ x, (x < B + 37 ∨ B + 43 < x) → (x < B + 82 ∨ B + 198 < x) → x ≠ B + 79 → x ≠ B + 81 → I' x = I x
theorem FrN.rf {B : Nat} {I : IT} : FrN B I I := fun _ _ _ _ _ => rfl
theorem FrN.tr {B : Nat} {I1 I2 I3 : IT} (h : FrN B I1 I2) (g : FrN B I2 I3) : FrN B I1 I3 := fun x a b c d => (h x a b c d).trans (g x a b c d)
theorem FdC.n {B : Nat} {I1 I2 : IT} (h : FdC B I1 I2) : FrN B I1 I2 := fun x a b c d => h x a (by omega) c d
theorem FrN.u {B i : Nat} {I1 I2 : IT} {v : Int32} (h : FrN B I1 I2) : FrN B (up2 I1 (B + 82) i v) I2 := fun x a b c d => by rw [up2_row (by omega)]; exact h x a b c d
section DL
variable {E : EnT} {S : ST} {I : IT} {L : LT} {B : Nat} {A : AT} {q : Nat → Nat} {dn lt : Nat}
def PLk (S : ST) (I : IT) (L : LT) (W : Nat) (w : WT) (r : Option Value) (S' : ST) (I' : IT) (L' : LT) : Prop := r = none ∧ S = S' ∧ L = L' ∧ PWd W w 6 I' I
theorem c_X0_lookAround (h11 : Lay11 E S B) (hv : VlM I (B + 36 + 1) q) (hq : wq q) (h7 : I (B + 82) 7 = nI dn) (h8 : I (B + 82) 8 = pred1 lt) : C E kX0_lookAround 2 0 0 [.ref (B + 82)] S I L (PLk S I L (B + 82 + 116) (wdO q dn lt)) := by
  have h0 := h11.O4
  have h10 := h11.O0
  have hnb := hq.nb
  refine C_of (by decide) (Nat.le_of_ble_eq_true rfl) ?_
  have key : ∀ n, n ≤ 6 → ∀ J, PWd (B + 82 + 116) (wdO q dn lt) n J I → V E kX0_lookAround (rmOf 2 0 0) (QM E (PLk S I L (B + 82 + 116) (wdO q dn lt)) 0 0) 0 0 S J L 56 [(0, .ref (B + 82)), (1, .ref (B + 36 + 1)), (2, .int (nI n))] [] := by
    refine loopUp (n := 6) (P := fun n => ∀ J, PWd (B + 82 + 116) (wdO q dn lt) n J I → V E kX0_lookAround (rmOf 2 0 0) (QM E (PLk S I L (B + 82 + 116) (wdO q dn lt)) 0 0) 0 0 S J L 56 [(0, .ref (B + 82)), (1, .ref (B + 36 + 1)), (2, .int (nI n))] []) ?_ ?_
    · intro J hP
      refine V_iload_n (pc := 56) dX0_lookAround_56 rfl ?_
      refine V_bipush (pc := 57) (v := nI 6) dX0_lookAround_57 (by decide) ?_
      refine V_icmp_geN (pc := 59) (tgt := 119) dX0_lookAround_59 (by decide) (by omega) (by omega) (fun c59 => ?_) (fun n59 => absurd n59 (by omega))
      refine V_vret (pc := 119) dX0_lookAround_119 rfl (by first | decide | omega) (by first | decide | omega) ?_
      exact ⟨rfl, rfl, rfl, hP⟩
    · intro n hn ih J hP
      have hvJ : VlM J (B + 36 + 1) q := hv.cg fun a a1 a2 => hP.1 a (by omega)
      by_cases hb : n < q 0
      · have eb : bnd (nI n) (q 0) = true := by rw [bnd_nI (by omega)]; exact decide_eq_true hb
        have hl := hvJ.2.2.2.2.2.1 n hn
        refine V_loc [0, 1, 2] rfl ?_
        refine V_iload_n (pc := 56) dX0_lookAround_56 rfl ?_
        refine V_bipush (pc := 57) (v := nI 6) dX0_lookAround_57 (by decide) ?_
        refine V_icmp_geN (pc := 59) (tgt := 119) dX0_lookAround_59 (by decide) (by omega) (by omega) (fun c59 => absurd c59 (by omega)) (fun n59 => ?_)
        refine V_aload_n (pc := 62) dX0_lookAround_62 rfl ?_
        refine V_iload_n (pc := 63) dX0_lookAround_63 rfl ?_
        refine V_callVd (pc := 64) (ci := 9) (c_X9_hasBox h10.O0 hvJ hq) dX0_lookAround_64 mlX0_65 mkX9_hasBox rfl rfl h10.O0.o ⟨by decide, rfl⟩ ⟨Nat.le_of_ble_eq_true rfl, Nat.le_of_ble_eq_true rfl⟩ (Nat.le_of_ble_eq_true rfl) ⟨Nat.le_of_ble_eq_true rfl, Nat.le_of_ble_eq_true rfl⟩ ?_
        refine V_istore_n (pc := 67) (ls' := [(0, _), (1, _), (2, _), (3, _)]) dX0_lookAround_67 (by decide) rfl ?_
        refine V_aload_n (pc := 68) dX0_lookAround_68 rfl ?_
        refine V_getR (pc := 69) 0 4 dX0_lookAround_69 flX0_20 (by decide) h0.o h0.R4 ?_
        refine V_bipush (pc := 72) (v := nI 12) dX0_lookAround_72 (by decide) ?_
        refine V_iload_n (pc := 74) dX0_lookAround_74 rfl ?_
        refine V_iaddN (pc := 75) dX0_lookAround_75 ?_
        refine V_iload_n (pc := 76) dX0_lookAround_76 rfl ?_
        refine V_if_eqB (pc := 77) (tgt := 89) dX0_lookAround_77 (by decide) (fun c77 => absurd c77 (by rw [eb]; decide)) (fun n77 => ?_)
        refine V_aload_n (pc := 80) dX0_lookAround_80 rfl ?_
        refine V_getR (pc := 81) 9 5 dX0_lookAround_81 flX0_107 (by decide) h10.O0.o h10.O0.R5 ?_
        refine V_iload_n (pc := 84) dX0_lookAround_84 rfl ?_
        refine V_ialoadE (pc := 85) dX0_lookAround_85 h10.O0.A5 (by first | decide | omega) (by omega) (hl) ?_
        refine V_goto (pc := 86) (tgt := 90) dX0_lookAround_86 (by decide) ?_
        refine V_iastore (pc := 90) dX0_lookAround_90 h0.A4 (by first | decide | omega) (by omega) ?_
        refine V_aload_n (pc := 91) dX0_lookAround_91 rfl ?_
        refine V_getR (pc := 92) 0 4 dX0_lookAround_92 flX0_20 (by decide) h0.o h0.R4 ?_
        refine V_bipush (pc := 95) (v := nI 18) dX0_lookAround_95 (by decide) ?_
        refine V_iload_n (pc := 97) dX0_lookAround_97 rfl ?_
        refine V_iaddN (pc := 98) dX0_lookAround_98 ?_
        refine V_iload_n (pc := 99) dX0_lookAround_99 rfl ?_
        refine V_if_eqB (pc := 100) (tgt := 111) dX0_lookAround_100 (by decide) (fun c100 => absurd c100 (by rw [eb]; decide)) (fun n100 => ?_)
        refine V_aload_n (pc := 103) dX0_lookAround_103 rfl ?_
        refine V_iload_n (pc := 104) dX0_lookAround_104 rfl ?_
        refine V_callVd (pc := 105) (ci := 9) (c_X9_notes h10.O0 (hvJ.cg fun a a1 a2 => up2_row (by omega)) hq hn) dX0_lookAround_105 mlX0_77 mkX9_notes rfl rfl h10.O0.o ⟨by decide, rfl⟩ ⟨Nat.le_of_ble_eq_true rfl, Nat.le_of_ble_eq_true rfl⟩ (Nat.le_of_ble_eq_true rfl) ⟨Nat.le_of_ble_eq_true rfl, Nat.le_of_ble_eq_true rfl⟩ ?_
        refine V_goto (pc := 108) (tgt := 112) dX0_lookAround_108 (by decide) ?_
        refine V_iastore (pc := 112) dX0_lookAround_112 h0.A4 (by first | decide | omega) (by omega) ?_
        refine V_iinc1 (pc := 113) (ls' := [(0, _), (1, _), (2, _), (3, _)]) dX0_lookAround_113 rfl (by decide) rfl ?_
        refine V_goto (pc := 116) (tgt := 56) dX0_lookAround_116 (by decide) ?_
        refine V_loc [0, 1, 2] rfl ?_
        refine ih _ (hP.st hn ?_ ?_)
        · rw [wdO_l hn, if_pos hb, i32_N]
        · rw [wdO_n hn, if_pos hb, i32_N]
      · have eb : bnd (nI n) (q 0) = false := by rw [bnd_nI (by omega)]; exact decide_eq_false hb
        refine V_loc [0, 1, 2] rfl ?_
        refine V_iload_n (pc := 56) dX0_lookAround_56 rfl ?_
        refine V_bipush (pc := 57) (v := nI 6) dX0_lookAround_57 (by decide) ?_
        refine V_icmp_geN (pc := 59) (tgt := 119) dX0_lookAround_59 (by decide) (by omega) (by omega) (fun c59 => absurd c59 (by omega)) (fun n59 => ?_)
        refine V_aload_n (pc := 62) dX0_lookAround_62 rfl ?_
        refine V_iload_n (pc := 63) dX0_lookAround_63 rfl ?_
        refine V_callVd (pc := 64) (ci := 9) (c_X9_hasBox h10.O0 hvJ hq) dX0_lookAround_64 mlX0_65 mkX9_hasBox rfl rfl h10.O0.o ⟨by decide, rfl⟩ ⟨Nat.le_of_ble_eq_true rfl, Nat.le_of_ble_eq_true rfl⟩ (Nat.le_of_ble_eq_true rfl) ⟨Nat.le_of_ble_eq_true rfl, Nat.le_of_ble_eq_true rfl⟩ ?_
        refine V_istore_n (pc := 67) (ls' := [(0, _), (1, _), (2, _), (3, _)]) dX0_lookAround_67 (by decide) rfl ?_
        refine V_aload_n (pc := 68) dX0_lookAround_68 rfl ?_
        refine V_getR (pc := 69) 0 4 dX0_lookAround_69 flX0_20 (by decide) h0.o h0.R4 ?_
        refine V_bipush (pc := 72) (v := nI 12) dX0_lookAround_72 (by decide) ?_
        refine V_iload_n (pc := 74) dX0_lookAround_74 rfl ?_
        refine V_iaddN (pc := 75) dX0_lookAround_75 ?_
        refine V_iload_n (pc := 76) dX0_lookAround_76 rfl ?_
        refine V_if_eqB (pc := 77) (tgt := 89) dX0_lookAround_77 (by decide) (fun c77 => ?_) (fun n77 => absurd n77 (by rw [eb]; decide))
        refine V_iconst (pc := 89) (v := (-1)) dX0_lookAround_89 (by decide) ?_
        refine V_iastore (pc := 90) dX0_lookAround_90 h0.A4 (by first | decide | omega) (by omega) ?_
        refine V_aload_n (pc := 91) dX0_lookAround_91 rfl ?_
        refine V_getR (pc := 92) 0 4 dX0_lookAround_92 flX0_20 (by decide) h0.o h0.R4 ?_
        refine V_bipush (pc := 95) (v := nI 18) dX0_lookAround_95 (by decide) ?_
        refine V_iload_n (pc := 97) dX0_lookAround_97 rfl ?_
        refine V_iaddN (pc := 98) dX0_lookAround_98 ?_
        refine V_iload_n (pc := 99) dX0_lookAround_99 rfl ?_
        refine V_if_eqB (pc := 100) (tgt := 111) dX0_lookAround_100 (by decide) (fun c100 => ?_) (fun n100 => absurd n100 (by rw [eb]; decide))
        refine V_iconst (pc := 111) (v := (-1)) dX0_lookAround_111 (by decide) ?_
        refine V_iastore (pc := 112) dX0_lookAround_112 h0.A4 (by first | decide | omega) (by omega) ?_
        refine V_iinc1 (pc := 113) (ls' := [(0, _), (1, _), (2, _), (3, _)]) dX0_lookAround_113 rfl (by decide) rfl ?_
        refine V_goto (pc := 116) (tgt := 56) dX0_lookAround_116 (by decide) ?_
        refine V_loc [0, 1, 2] rfl ?_
        refine ih _ (hP.st hn ?_ ?_)
        · rw [wdO_l hn, if_neg hb]; rfl
        · rw [wdO_n hn, if_neg hb]; rfl
  have hq5 := hv.2.2.2.2.2.2 0 (by omega)
  refine V_aload_n (pc := 0) dX0_lookAround_0 rfl ?_
  refine V_getR (pc := 1) 0 0 dX0_lookAround_1 flX0_41 (by decide) h0.o h0.R0 ?_
  refine V_getR (pc := 4) 10 0 dX0_lookAround_4 flX0_53 (by decide) h10.o h10.R0 ?_
  refine V_astore_n (pc := 7) (ls' := [(0, _), (1, _)]) dX0_lookAround_7 (by decide) rfl ?_
  refine V_aload_n (pc := 8) dX0_lookAround_8 rfl ?_
  refine V_getR (pc := 9) 0 4 dX0_lookAround_9 flX0_20 (by decide) h0.o h0.R4 ?_
  refine V_bipush (pc := 12) (v := nI 7) dX0_lookAround_12 (by decide) ?_
  refine V_aload_n (pc := 14) dX0_lookAround_14 rfl ?_
  refine V_getR (pc := 15) 9 6 dX0_lookAround_15 flX0_110 (by decide) h10.O0.o h10.O0.R6 ?_
  refine V_iconst (pc := 18) (v := nI 0) dX0_lookAround_18 (by decide) ?_
  refine V_ialoadE (pc := 19) dX0_lookAround_19 h10.O0.A6 (by first | decide | omega) (by omega) (hq5) ?_
  refine V_iastore (pc := 20) dX0_lookAround_20 h0.A4 (by first | decide | omega) (by omega) ?_
  refine V_aload_n (pc := 21) dX0_lookAround_21 rfl ?_
  refine V_getR (pc := 22) 0 4 dX0_lookAround_22 flX0_20 (by decide) h0.o h0.R4 ?_
  refine V_bipush (pc := 25) (v := nI 9) dX0_lookAround_25 (by decide) ?_
  refine V_aload_n (pc := 27) dX0_lookAround_27 rfl ?_
  refine V_getIE (pc := 28) 0 7 dX0_lookAround_28 flX0_34 (by decide) h0.o ((up2_ne (by omega)).trans h7) ?_
  refine V_iastore (pc := 31) dX0_lookAround_31 h0.A4 (by first | decide | omega) (by omega) ?_
  refine V_aload_n (pc := 32) dX0_lookAround_32 rfl ?_
  refine V_getR (pc := 33) 0 4 dX0_lookAround_33 flX0_20 (by decide) h0.o h0.R4 ?_
  refine V_bipush (pc := 36) (v := nI 10) dX0_lookAround_36 (by decide) ?_
  refine V_aload_n (pc := 38) dX0_lookAround_38 rfl ?_
  refine V_getIE (pc := 39) 0 8 dX0_lookAround_39 flX0_38 (by decide) h0.o ((up2_ne (by omega)).trans ((up2_ne (by omega)).trans h8)) ?_
  refine V_iastore (pc := 42) dX0_lookAround_42 h0.A4 (by first | decide | omega) (by omega) ?_
  refine V_aload_n (pc := 43) dX0_lookAround_43 rfl ?_
  refine V_getR (pc := 44) 0 4 dX0_lookAround_44 flX0_20 (by decide) h0.o h0.R4 ?_
  refine V_bipush (pc := 47) (v := nI 11) dX0_lookAround_47 (by decide) ?_
  refine V_aload_n (pc := 49) dX0_lookAround_49 rfl ?_
  refine V_callVd (pc := 50) (ci := 9) (c_X9_couples h10.O0 (hv.cg fun a a1 a2 => by rw [up2_row (by omega), up2_row (by omega), up2_row (by omega)]) hq) dX0_lookAround_50 mlX0_167 mkX9_couples rfl rfl h10.O0.o ⟨by decide, rfl⟩ ⟨Nat.le_of_ble_eq_true rfl, Nat.le_of_ble_eq_true rfl⟩ (Nat.le_of_ble_eq_true rfl) ⟨Nat.le_of_ble_eq_true rfl, Nat.le_of_ble_eq_true rfl⟩ ?_
  refine V_iastore (pc := 53) dX0_lookAround_53 h0.A4 (by first | decide | omega) (by omega) ?_
  refine V_iconst (pc := 54) (v := nI 0) dX0_lookAround_54 (by decide) ?_
  refine V_istore_n (pc := 55) (ls' := [(0, _), (1, _), (2, _)]) dX0_lookAround_55 (by decide) rfl ?_
  refine key 0 (by omega) _ ⟨fun x hx => by rw [up2_row hx, up2_row hx, up2_row hx, up2_row hx], fun j hj hc => ?_⟩
  have hj2 := wdk_t.mp hj
  have hcc : j = 7 ∨ j = 9 ∨ j = 10 ∨ j = 11 := by omega
  rcases hcc with rfl | rfl | rfl | rfl
  · rw [up2_nej (by omega), up2_nej (by omega), up2_nej (by omega), up2_self, i32_N]; rfl
  · rw [up2_nej (by omega), up2_nej (by omega), up2_self, i32_N]; rfl
  · rw [up2_nej (by omega), up2_self, pred1_I]; rfl
  · rw [up2_self, i32_N]; rfl
/-- what orders keep, should they be dropped -/
def AhM (I : IT) (B : Nat) (A : AT) : Prop := VlM I (B + 82 + 117) (aq A) ∧ HsM I (B + 82 + 124) (aq A) (aun A)
theorem AhM.cg {I' : IT} (h : AhM I B A) (e : ∀ x, B + 198 < x → x ≤ B + 320 → I' x = I x) : AhM I' B A := ⟨h.1.cg fun x x1 x2 => e x (by omega) (by omega), h.2.cg fun x x1 x2 => e x (by omega) (by omega)⟩
theorem c_X0_beginOrders (h11 : Lay11 E S B) (hR : CR E S B I A) : C E kX0_beginOrders 3 0 0 [.ref (B + 82)] S I L (fun r S' I' L' => r = none ∧ S = S' ∧ L = L' ∧ CR E S B I' A ∧ AhM I' B A ∧ I' (B + 82) 7 = nI 0 ∧ I' (B + 82) 8 = pred1 0 ∧ ∀ x, (x < B + 82 ∨ B + 320 < x) → I' x = I x) := by
  have h0 := h11.O4
  have h10 := h11.O0
  have hv : VlM I (B + 36 + 1) (aq A) := hR.1.1
  have hh : HsM I (B + 82 + 1) (aq A) (aun A) := hR.2.2.1
  have e1 : ∀ x, x ≠ B + 82 → up2 (up2 I (B + 82) 7 (nI 0)) (B + 82) 8 (-1) x = I x := fun x hx => by rw [up2_row hx, up2_row hx]
  refine C_of (by decide) (Nat.le_of_ble_eq_true rfl) ?_
  refine V_aload_n (pc := 0) dX0_beginOrders_0 rfl ?_
  refine V_iconst (pc := 1) (v := nI 0) dX0_beginOrders_1 (by decide) ?_
  refine V_putI (pc := 2) 0 7 dX0_beginOrders_2 flX0_34 (by decide) (by decide) (Or.inl rfl) rfl rfl h0.o ?_
  refine V_aload_n (pc := 5) dX0_beginOrders_5 rfl ?_
  refine V_iconst (pc := 6) (v := (-1)) dX0_beginOrders_6 (by decide) ?_
  refine V_putI (pc := 7) 0 8 dX0_beginOrders_7 flX0_38 (by decide) (by decide) (Or.inl rfl) rfl rfl h0.o ?_
  refine V_aload_n (pc := 10) dX0_beginOrders_10 rfl ?_
  refine V_getR (pc := 11) 0 5 dX0_beginOrders_11 flX0_27 (by decide) h0.o h0.R5 ?_
  refine V_aload_n (pc := 14) dX0_beginOrders_14 rfl ?_
  refine V_getR (pc := 15) 0 0 dX0_beginOrders_15 flX0_41 (by decide) h0.o h0.R0 ?_
  refine V_getR (pc := 18) 10 0 dX0_beginOrders_18 flX0_53 (by decide) h10.o h10.R0 ?_
  refine V_callV (pc := 21) (ci := 9) (c_X9_copyFrom h0.O5 h10.O0 (hv.cg fun x x1 x2 => e1 x (by omega)) (by omega)) dX0_beginOrders_21 mlX0_132 mkX9_copyFrom rfl rfl h0.O5.o ⟨by decide, rfl⟩ ⟨Nat.le_of_ble_eq_true rfl, Nat.le_of_ble_eq_true rfl⟩ (Nat.le_of_ble_eq_true rfl) ⟨Nat.le_of_ble_eq_true rfl, Nat.le_of_ble_eq_true rfl⟩ (fun r S' I' L' hp => ?_)
  obtain ⟨rfl, rfl, rfl, hc1, hf1⟩ := hp
  refine V_aload_n (pc := 24) dX0_beginOrders_24 rfl ?_
  refine V_getR (pc := 25) 0 6 dX0_beginOrders_25 flX0_31 (by decide) h0.o h0.R6 ?_
  refine V_aload_n (pc := 28) dX0_beginOrders_28 rfl ?_
  refine V_getR (pc := 29) 0 3 dX0_beginOrders_29 flX0_12 (by decide) h0.o h0.R3 ?_
  refine V_callV (pc := 32) (ci := 2) (c_X2_copyFrom h0.O6 h0.O3 (by omega) (hh.cg fun x x1 x2 => by rw [hf1 x (by omega), e1 x (by omega)])) dX0_beginOrders_32 mlX0_136 mkX2_copyFrom rfl rfl h0.O6.o ⟨by decide, rfl⟩ ⟨Nat.le_of_ble_eq_true rfl, Nat.le_of_ble_eq_true rfl⟩ (Nat.le_of_ble_eq_true rfl) ⟨Nat.le_of_ble_eq_true rfl, Nat.le_of_ble_eq_true rfl⟩ (fun r S' I' L' hp => ?_)
  obtain ⟨rfl, rfl, rfl, hc2, hf2⟩ := hp
  refine V_vret (pc := 35) dX0_beginOrders_35 rfl (by first | decide | omega) (by first | decide | omega) ?_
  refine ⟨rfl, rfl, rfl, hR.dd (DdC.of fun x hx => ?_), ⟨hc1.cg fun x x1 x2 => hf2 x (by omega), hc2⟩, ?_, ?_, fun x hx => ?_⟩
  · rw [hf2 x (by unfold lvC at hx; omega), hf1 x (by unfold lvC at hx; omega), e1 x (by unfold lvC at hx; omega)]
  · rw [hf2 _ (by omega), hf1 _ (by omega), up2_nej (by omega), up2_self]
  · rw [hf2 _ (by omega), hf1 _ (by omega), up2_self, pred1_0]
  · rw [hf2 x (by omega), hf1 x (by omega), e1 x (by omega)]
theorem c_X0_dropOrders {A0 : AT} (h11 : Lay11 E S B) (hR : CR E S B I A) (hA : AhM I B A0) (hs : SmO A A0) : C E kX0_dropOrders 3 0 0 [.ref (B + 82)] S I L (fun r S' I' L' => r = none ∧ S = S' ∧ L = L' ∧ CR E S B I' A0 ∧ FrN B I' I) := by
  have h0 := h11.O4
  have h10 := h11.O0
  refine C_of (by decide) (Nat.le_of_ble_eq_true rfl) ?_
  refine V_aload_n (pc := 0) dX0_dropOrders_0 rfl ?_
  refine V_getR (pc := 1) 0 0 dX0_dropOrders_1 flX0_41 (by decide) h0.o h0.R0 ?_
  refine V_getR (pc := 4) 10 0 dX0_dropOrders_4 flX0_53 (by decide) h10.o h10.R0 ?_
  refine V_aload_n (pc := 7) dX0_dropOrders_7 rfl ?_
  refine V_getR (pc := 8) 0 5 dX0_dropOrders_8 flX0_27 (by decide) h0.o h0.R5 ?_
  refine V_callV (pc := 11) (ci := 9) (c_X9_copyFrom h10.O0 h0.O5 hA.1 (by omega)) dX0_dropOrders_11 mlX0_132 mkX9_copyFrom rfl rfl h10.O0.o ⟨by decide, rfl⟩ ⟨Nat.le_of_ble_eq_true rfl, Nat.le_of_ble_eq_true rfl⟩ (Nat.le_of_ble_eq_true rfl) ⟨Nat.le_of_ble_eq_true rfl, Nat.le_of_ble_eq_true rfl⟩ (fun r S' I' L' hp => ?_)
  obtain ⟨rfl, rfl, rfl, hc1, hf1⟩ := hp
  refine V_aload_n (pc := 14) dX0_dropOrders_14 rfl ?_
  refine V_getR (pc := 15) 0 3 dX0_dropOrders_15 flX0_12 (by decide) h0.o h0.R3 ?_
  refine V_aload_n (pc := 18) dX0_dropOrders_18 rfl ?_
  refine V_getR (pc := 19) 0 6 dX0_dropOrders_19 flX0_31 (by decide) h0.o h0.R6 ?_
  refine V_callV (pc := 22) (ci := 2) (c_X2_copyFrom h0.O3 h0.O6 (by omega) (hA.2.cg fun x x1 x2 => hf1 x (by omega))) dX0_dropOrders_22 mlX0_136 mkX2_copyFrom rfl rfl h0.O3.o ⟨by decide, rfl⟩ ⟨Nat.le_of_ble_eq_true rfl, Nat.le_of_ble_eq_true rfl⟩ (Nat.le_of_ble_eq_true rfl) ⟨Nat.le_of_ble_eq_true rfl, Nat.le_of_ble_eq_true rfl⟩ (fun r S' I' L' hp => ?_)
  obtain ⟨rfl, rfl, rfl, hc2, hf2⟩ := hp
  refine V_vret (pc := 25) dX0_dropOrders_25 rfl (by first | decide | omega) (by first | decide | omega) ?_
  refine ⟨rfl, rfl, rfl, ?_, fun x x1 x2 x3 x4 => by rw [hf2 x (by omega), hf1 x (by omega)]⟩
  have eA : A0 = sun (sq A (aq A0)) (aun A0) := by
    obtain ⟨a1, a2, a3, a4⟩ := A0
    obtain ⟨b1, b2, b3, b4⟩ := A
    obtain ⟨s1, s2, s3⟩ := hs
    have s2 : b2 = a2 := s2
    have s3 : b4 = a4 := s3
    subst s2; subst s3
    rfl
  rw [eA]
  refine hR.tqu (fun x x1 x2 => by rw [hf2 x (by omega), hf1 x (by omega)]) (hc1.cg fun x x1 x2 => hf2 x (by omega)) (fun i hi => (hs.1 i hi).symm) (hc2.qq fun i hi => hs.1 i hi)
end DL
