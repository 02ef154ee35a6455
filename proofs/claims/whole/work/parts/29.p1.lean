/-! THE REFERENCE's public methods, I -/
theorem FrM.rf {o : Nat} {I : IT} {L : LT} : FrM o I I L L := fun _ _ => ⟨rfl, rfl⟩
theorem FrM.up {o a i : Nat} {I I' : IT} {L L' : LT} {v : Int32} (h : FrM o I' I L' L) (ha : o ≤ a ∧ a ≤ o + 35) : FrM o (up2 I' a i v) I L' L := fun x hx => ⟨by rw [up2_row (by omega)]; exact (h x hx).1, (h x hx).2⟩
theorem FrM.upL {o a i : Nat} {I I' : IT} {L L' : LT} {v : Int64} (h : FrM o I' I L' L) (ha : o ≤ a ∧ a ≤ o + 35) : FrM o I' I (up2 L' a i v) L := fun x hx => ⟨(h x hx).1, by rw [up2_row (by omega)]; exact (h x hx).2⟩
theorem FrM.upr {o a : Nat} {I I' : IT} {L L' : LT} {g : Nat → Int32} (h : FrM o I' I L' L) (ha : o ≤ a ∧ a ≤ o + 35) : FrM o (upr I' a g) I L' L := fun x hx => ⟨by rw [upr_row (by omega)]; exact (h x hx).1, (h x hx).2⟩
theorem FrM.hrf {o r : Nat} {I I' : IT} {L L' : LT} (h : FrM o I' I L' L) : FrM o (refu I' o r) I L' L := (h.up (by omega)).up (by omega)
theorem FrM.ts {o : Nat} {I I' I2 : IT} {L L' L2 : LT} (h : FrM o I' I L' L) (hI : TsI o I2 I') (hL : TsL o L2 L') : FrM o I2 I L2 L := fun x hx => ⟨(hI.1 x (by omega)).trans (h x hx).1, (hL.1 x (by omega) (by omega) (by omega)).trans (h x hx).2⟩
abbrev Cm (E : EnT) (k : MI) (d : Nat) (av : List Value) (S : ST) (I : IT) (L : LT) (o : Nat) (v : Value) (A' : AT) : Prop := C E k d 0 0 av S I L (fun r S' I' L' => r = some v ∧ S = S' ∧ MR o I' L' A' ∧ FrM o I' I L' L)
def cln (x : Int32) : Nat := x.toNatClampNeg
theorem cln_nI {j : Nat} (h : j < 2 ^ 31) : cln (nI j) = j := nI_clamp h
theorem up2_same {α : Type} {f : Nat → Nat → α} {a i : Nat} {v : α} (h : f a i = v) : up2 f a i v = f := by
  funext x j
  unfold up2
  split
  · rename_i hx; subst hx; split
    · rename_i hj; subst hj; exact h.symm
    · rfl
  · rfl
section MH
variable {E : EnT} {S : ST} {I : IT} {L : LT} {o : Nat} {A : AT}
theorem c_X12_tellv (h12 : Lay12 E S o) {r : Nat} {v : Int32} (h0 : 0 < r) (hr : r < 7) (hv : v = -(nI r)) : Cd E kX12_tell 0 0 0 [.ref o, .int v] S I L (.int (-(nI r))) S (refu I o r) L := by
  subst hv
  exact c_X12_tell_r h12 h0 hr
/-! box -/
def spBox (A : AT) (x : Int32) : Int32 × AT := if bnd x 21 = true then (if aq A 0 = 6 then (-(nI 5), rfs A 5) else (nI (aq A 0), ok0 (un0 (sq A (setq (setq (aq A) (62 + aq A 0) (cln x)) 0 (aq A 0 + 1)))))) else (-(nI 1), rfs A 1)
theorem lp_box (h12 : Lay12 E S o) {R : Room} {Q : QT} {cl sl n : Nat} {a1 : Int32} (hn : n < 6) (h0 : ∀ i, i < 8 → I (o + 2) (8 + 8 * n + i) = nI 0) (hk : V E kX12_box R Q cl sl S I L 72 [(0, .ref o), (1, .int a1), (2, .int (nI n)), (3, .int (nI 8))] []) : V E kX12_box R Q cl sl S I L 45 [(0, .ref o), (1, .int a1), (2, .int (nI n)), (3, .int (nI 0))] [] := by
  refine loopUp (P := fun i => V E kX12_box R Q cl sl S I L 45 [(0, .ref o), (1, .int a1), (2, .int (nI n)), (3, .int (nI i))] []) (n := 8) ?_ ?_ 0 (by omega)
  · skip
    refine V_iload_n (pc := 45) dX12_box_45 rfl ?_
    refine V_bipush (pc := 46) (v := nI 8) dX12_box_46 (by decide) ?_
    refine V_icmp_geN (pc := 48) (tgt := 72) dX12_box_48 (by decide) (by omega) (by omega) (fun c48 => ?_) (fun n48 => absurd n48 (by omega))
    exact hk
  · intro i hi ih
    have e1 : up2 I (o + 2) (8 + 8 * n + i) (nI 0) = I := up2_same (h0 i hi)
    refine V_iload_n (pc := 45) dX12_box_45 rfl ?_
    refine V_bipush (pc := 46) (v := nI 8) dX12_box_46 (by decide) ?_
    refine V_icmp_geN (pc := 48) (tgt := 72) dX12_box_48 (by decide) (by omega) (by omega) (fun c48 => absurd c48 (by omega)) (fun n48 => ?_)
    refine V_aload_n (pc := 51) dX12_box_51 rfl ?_
    refine V_getR (pc := 52) 12 3 dX12_box_52 flX12_13 (by decide) h12.o h12.R3 ?_
    refine V_bipush (pc := 55) (v := nI 8) dX12_box_55 (by decide) ?_
    refine V_bipush (pc := 57) (v := nI 8) dX12_box_57 (by decide) ?_
    refine V_iload_n (pc := 59) dX12_box_59 rfl ?_
    refine V_imulN (pc := 60) dX12_box_60 ?_
    refine V_iaddN (pc := 61) dX12_box_61 ?_
    refine V_iload_n (pc := 62) dX12_box_62 rfl ?_
    refine V_iaddN (pc := 63) dX12_box_63 ?_
    refine V_iconst (pc := 64) (v := nI 0) dX12_box_64 (by decide) ?_
    refine V_iastore (pc := 65) dX12_box_65 h12.A3 (by first | decide | omega) (by omega) ?_
    rw [e1]
    refine V_iinc1 (pc := 66) (ls' := [(0, _), (1, _), (2, _), (3, _)]) dX12_box_66 rfl (by decide) rfl ?_
    refine V_goto (pc := 69) (tgt := 45) dX12_box_69 (by decide) ?_
    exact ih
theorem box_row {q : Nat → Nat} {f : Nat → Int32} {j : Nat} (hq : wq q) (h6 : q 0 < 6) (hr : ∀ i, i < 116 → (68 ≤ i ∧ i < 74 → i < 68 + q 0) → f i = enc q i) : ∀ i, i < 116 → (68 ≤ i ∧ i < 74 → i < 68 + setq (setq q (62 + q 0) j) 0 (q 0 + 1) 0) → (if i = 0 then nI (q 0 + 1) else if i = 68 + q 0 then (-1 : Int32) else if i = 62 + q 0 then nI j else f i) = enc (setq (setq q (62 + q 0) j) 0 (q 0 + 1)) i := by
  intro i hi hw
  have hun := hq.un (q 0) (Nat.le_refl _) h6
  rw [setq_s] at hw
  unfold enc
  by_cases h0 : i = 0
  · subst h0; rw [if_pos rfl, if_neg (by omega), setq_s]
  · rw [if_neg h0, setq_n h0]
    by_cases h1 : i = 68 + q 0
    · subst h1
      rw [if_pos rfl, if_pos (by omega), setq_n (by omega), hun.2.2.2.1, pred1_0]
    · rw [if_neg h1]
      by_cases h2 : i = 62 + q 0
      · subst h2; rw [if_pos rfl, if_neg (by omega), setq_s]
      · rw [if_neg h2, setq_n h2, hr i hi (by omega)]
        rfl
theorem c_X12_box (h12 : Lay12 E S o) (hM : MR o I L A) (hA : wfA A) {x : Int32} : Cm E kX12_box 2 [.ref o, .int x] S I L o (.int (spBox A x).1) (spBox A x).2 := by
  have hq := hA.q
  have hnb := hq.nb
  have e20 : decide (lN 0 ≤ x.toInt64 ∧ x.toInt64 ≤ (20 : Int64)) = bnd x 21 := bnd64' (n := 20) (by omega)
  refine C_of (by decide) (Nat.le_of_ble_eq_true rfl) ?_
  refine V_aload_n (pc := 0) dX12_box_0 rfl ?_
  refine V_iconst (pc := 1) (v := nI 0) dX12_box_1 (by decide) ?_
  refine V_putI (pc := 2) 12 0 dX12_box_2 flX12_175 (by decide) (by decide) (Or.inl rfl) rfl rfl h12.o ?_
  have hM := hM.thrown (v := nI 0)
  have hF : FrM o (up2 I o 0 (nI 0)) I L L := FrM.rf.up (by omega)
  generalize up2 I o 0 (nI 0) = I0 at hM hF ⊢
  have hr := hM.row
  refine V_iload_n (pc := 5) dX12_box_5 rfl ?_
  refine V_i2l (pc := 6) dX12_box_6 rfl ?_
  refine V_lconst (pc := 7) (v := lN 0) dX12_box_7 (by decide) ?_
  refine V_ldc2 (pc := 8) dX12_box_8 coX12_211 ?_
  refine V_callSd (pc := 11) (c_X12_in) dX12_box_11 mlX12_195 mkX12_in rfl rfl ⟨Nat.le_of_ble_eq_true rfl, Nat.le_of_ble_eq_true rfl⟩ (Nat.le_of_ble_eq_true rfl) ⟨Nat.le_of_ble_eq_true rfl, Nat.le_of_ble_eq_true rfl⟩ ?_
  refine V_if_neB (pc := 14) (tgt := 23) dX12_box_14 (by decide) (fun c14 => ?_) (fun n14 => ?_)
  · skip
    rw [e20] at c14
    obtain ⟨j, hj, hx⟩ := bnd_ex (by omega) c14
    rw [spBox, if_pos c14]
    subst hx
    rw [cln_nI (by omega)]
    refine V_aload_n (pc := 23) dX12_box_23 rfl ?_
    refine V_getR (pc := 24) 12 3 dX12_box_24 flX12_13 (by decide) h12.o h12.R3 ?_
    refine V_iconst (pc := 27) (v := nI 0) dX12_box_27 (by decide) ?_
    refine V_ialoadE (pc := 28) dX12_box_28 h12.A3 (by first | decide | omega) (by omega) (hr.n (by omega)) ?_
    refine V_istore_n (pc := 29) (ls' := [(0, _), (1, _), (2, _)]) dX12_box_29 (by decide) rfl ?_
    refine V_iload_n (pc := 30) dX12_box_30 rfl ?_
    refine V_bipush (pc := 31) (v := nI 6) dX12_box_31 (by decide) ?_
    refine V_icmp_neN (pc := 33) (tgt := 43) dX12_box_33 (by decide) (by omega) (by omega) (fun c33 => ?_) (fun n33 => ?_)
    · skip
      rw [if_neg c33]
      have h6 : aq A 0 < 6 := by omega
      have hun := hq.un (aq A 0) (Nat.le_refl _) h6
      have e1 : up2 I0 (o + 2) (56 + aq A 0) (nI 0) = I0 := up2_same (by rw [hr.n (by omega), hun.2.1])
      refine V_iconst (pc := 43) (v := nI 0) dX12_box_43 (by decide) ?_
      refine V_istore_n (pc := 44) (ls' := [(0, _), (1, _), (2, _), (3, _)]) dX12_box_44 (by decide) rfl ?_
      refine lp_box h12 h6 (fun i hi => by rw [hr.n (by omega), hun.1 i hi]) ?_
      refine V_aload_n (pc := 72) dX12_box_72 rfl ?_
      refine V_getR (pc := 73) 12 3 dX12_box_73 flX12_13 (by decide) h12.o h12.R3 ?_
      refine V_bipush (pc := 76) (v := nI 56) dX12_box_76 (by decide) ?_
      refine V_iload_n (pc := 78) dX12_box_78 rfl ?_
      refine V_iaddN (pc := 79) dX12_box_79 ?_
      refine V_iconst (pc := 80) (v := nI 0) dX12_box_80 (by decide) ?_
      refine V_iastore (pc := 81) dX12_box_81 h12.A3 (by first | decide | omega) (by omega) ?_
      rw [e1]
      refine V_aload_n (pc := 82) dX12_box_82 rfl ?_
      refine V_getR (pc := 83) 12 3 dX12_box_83 flX12_13 (by decide) h12.o h12.R3 ?_
      refine V_bipush (pc := 86) (v := nI 62) dX12_box_86 (by decide) ?_
      refine V_iload_n (pc := 88) dX12_box_88 rfl ?_
      refine V_iaddN (pc := 89) dX12_box_89 ?_
      refine V_iload_n (pc := 90) dX12_box_90 rfl ?_
      refine V_iastore (pc := 91) dX12_box_91 h12.A3 (by first | decide | omega) (by omega) ?_
      refine V_aload_n (pc := 92) dX12_box_92 rfl ?_
      refine V_getR (pc := 93) 12 3 dX12_box_93 flX12_13 (by decide) h12.o h12.R3 ?_
      refine V_bipush (pc := 96) (v := nI 68) dX12_box_96 (by decide) ?_
      refine V_iload_n (pc := 98) dX12_box_98 rfl ?_
      refine V_iaddN (pc := 99) dX12_box_99 ?_
      refine V_iconst (pc := 100) (v := (-1)) dX12_box_100 (by decide) ?_
      refine V_iastore (pc := 101) dX12_box_101 h12.A3 (by first | decide | omega) (by omega) ?_
      refine V_aload_n (pc := 102) dX12_box_102 rfl ?_
      refine V_getR (pc := 103) 12 3 dX12_box_103 flX12_13 (by decide) h12.o h12.R3 ?_
      refine V_bipush (pc := 106) (v := nI 74) dX12_box_106 (by decide) ?_
      refine V_iload_n (pc := 108) dX12_box_108 rfl ?_
      refine V_iaddN (pc := 109) dX12_box_109 ?_
      refine V_iconst (pc := 110) (v := nI 0) dX12_box_110 (by decide) ?_
      refine V_iastore (pc := 111) dX12_box_111 h12.A3 (by first | decide | omega) (by omega) ?_
      refine V_aload_n (pc := 112) dX12_box_112 rfl ?_
      refine V_getR (pc := 113) 12 3 dX12_box_113 flX12_13 (by decide) h12.o h12.R3 ?_
      refine V_iconst (pc := 116) (v := nI 0) dX12_box_116 (by decide) ?_
      refine V_dup2 (pc := 117) dX12_box_117 rfl rfl ?_
      refine V_ialoadE (pc := 118) dX12_box_118 h12.A3 (by first | decide | omega) (by omega) (show (_ : Int32) = nI (aq A 0) by rw [up2_nej (by omega), up2_nej (by omega), up2_nej (by omega)]; exact hr.n (by omega)) ?_
      refine V_iconst (pc := 119) (v := nI 1) dX12_box_119 (by decide) ?_
      refine V_iaddN (pc := 120) dX12_box_120 ?_
      refine V_iastore (pc := 121) dX12_box_121 h12.A3 (by first | decide | omega) (by omega) ?_
      refine V_aload_n (pc := 122) dX12_box_122 rfl ?_
      refine V_iload_n (pc := 123) dX12_box_123 rfl ?_
      refine V_callVd (pc := 124) (ci := 12) (c_X12_settled (by first | assumption | omega | exact h12) (by first | assumption | omega | exact h12)) dX12_box_124 mlX12_199 mkX12_settled rfl rfl h12.o ⟨by decide, rfl⟩ ⟨Nat.le_of_ble_eq_true rfl, Nat.le_of_ble_eq_true rfl⟩ (Nat.le_of_ble_eq_true rfl) ⟨Nat.le_of_ble_eq_true rfl, Nat.le_of_ble_eq_true rfl⟩ ?_
      refine V_iret (pc := 127) dX12_box_127 rfl (by first | decide | omega) (by first | decide | omega) ?_
      refine ⟨rfl, rfl, (MR.srow (I' := _) (q' := setq (setq (aq A) (62 + aq A 0) j) 0 (aq A 0 + 1)) hM.hun ?_ ?_ ?_ ?_ (Or.inr rfl)).hok, ((((((hF.up (by omega)).up (by omega)).up (by omega)).up (by omega)).up (by omega)).up (by omega))⟩
      · intro a ha
        funext i
        simp [up2, ha]
      · intro i hi
        rw [up2_ne (by omega), up2_nej (by omega), up2_nej (by omega), up2_nej (by omega), up2_nej (by omega), up2_ne (by omega)]
      · intro i hi hw
        have e := box_row (j := j) hq h6 hr i hi hw
        rw [← e]
        have hl : I0 (o + 2) (74 + aq A 0) = nI 0 := by rw [hr.n (by omega), hun.2.2.2.2]
        simp only [up2]
        by_cases z : i = 74 + aq A 0
        · subst z; simp [hl]
        · simp [z]
      · exact setq_n (by omega) |>.trans (setq_n (by omega))
    · skip
      refine V_aload_n (pc := 36) dX12_box_36 rfl ?_
      refine V_bipush (pc := 37) (v := (-5)) dX12_box_37 (by decide) ?_
      refine V_callVd (pc := 39) (ci := 12) (c_X12_tellv (r := 5) h12 (by decide) (by decide) (by decide)) dX12_box_39 mlX12_184 mkX12_tell rfl rfl h12.o ⟨by decide, rfl⟩ ⟨Nat.le_of_ble_eq_true rfl, Nat.le_of_ble_eq_true rfl⟩ (Nat.le_of_ble_eq_true rfl) ⟨Nat.le_of_ble_eq_true rfl, Nat.le_of_ble_eq_true rfl⟩ ?_
      refine V_iret (pc := 42) dX12_box_42 rfl (by first | decide | omega) (by first | decide | omega) ?_
      rw [if_pos n33]
      exact ⟨rfl, rfl, hM.hrf, hF.hrf⟩
  · skip
    rw [e20] at n14
    rw [spBox, if_neg (by rw [n14]; decide)]
    refine V_aload_n (pc := 17) dX12_box_17 rfl ?_
    refine V_iconst (pc := 18) (v := (-1)) dX12_box_18 (by decide) ?_
    refine V_callVd (pc := 19) (ci := 12) (c_X12_tellv (r := 1) h12 (by decide) (by decide) (by decide)) dX12_box_19 mlX12_184 mkX12_tell rfl rfl h12.o ⟨by decide, rfl⟩ ⟨Nat.le_of_ble_eq_true rfl, Nat.le_of_ble_eq_true rfl⟩ (Nat.le_of_ble_eq_true rfl) ⟨Nat.le_of_ble_eq_true rfl, Nat.le_of_ble_eq_true rfl⟩ ?_
    refine V_iret (pc := 22) dX12_box_22 rfl (by first | decide | omega) (by first | decide | omega) ?_
    exact ⟨rfl, rfl, hM.hrf, hF.hrf⟩
end MH
