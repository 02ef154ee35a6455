/-! THE CLASS: deeds, told -/
/-- all but the valley, the history, and what the judge uses -/
def FdC (B : Nat) (I' I : IT) : Prop := ∀ x, (x < B + 37 ∨ B + 43 < x) → (x < B + 83 ∨ B + 197 < x) → x ≠ B + 79 → x ≠ B + 81 → I' x = I x
abbrev Cdd (E : EnT) (k : MI) (d : Nat) (av : List Value) (S : ST) (I : IT) (L : LT) (B : Nat) (v : Int32) (A' : AT) : Prop := C E k d 0 0 av S I L (fun r S' I' L' => r = some (.int v) ∧ S = S' ∧ L = L' ∧ CR E S B I' A' ∧ FdC B I' I)
theorem FdC.Fr {B : Nat} {I I' : IT} {L : LT} (h : FdC B I' I) : FrC B I' I L L := fun x hx => ⟨h x (by omega) (by omega) (by omega) (by omega), rfl⟩
section CM
variable {E : EnT} {S : ST} {I : IT} {L : LT} {B : Nat} {A : AT}
theorem CR.tqj {I' : IT} {q' : Nat → Nat} (h : CR E S B I A) (e : ∀ x, (x < B + 36 ∨ B + 48 < x) → x ≠ B + 79 → x ≠ B + 81 → I' x = I x) (hv : VgM I' (B + 36) q') (h3 : q' 3 = aq A 3) (h0 : q' 0 = aq A 0 ∨ (aun A).1 = 0) : CR E S B I' (sq A q') := by
  have h1 : CR E S B (fun x => if x = B + 79 ∨ x = B + 81 then I x else I' x) (sq A q') := h.tq (fun x hx => by
    show (if x = B + 79 ∨ x = B + 81 then I x else I' x) = I x
    by_cases z : x = B + 79 ∨ x = B + 81
    · rw [if_pos z]
    · rw [if_neg z]; exact e x hx (by omega) (by omega)) (hv.cg fun a a1 a2 => by
    show (if a = B + 79 ∨ a = B + 81 then I a else I' a) = I' a
    rw [if_neg (by omega)]) h3 h0
  exact h1.dd (DdC.of fun x hx => by
    show I' x = (if x = B + 79 ∨ x = B + 81 then I x else I' x)
    rw [if_neg (by unfold lvC at hx; omega)])
theorem c_X0_pullPin (h11 : Lay11 E S B) (hR : CR E S B I A) (hA : wfA A) {x y z : Int32} : Cdd E kX0_pullPin 3 [.ref (B + 82), .int x, .int y, .int z] S I L B (dv (dPull A x y z)) (dPull A x y z).2.2 := by
  have hq := hA.q
  have hnb := hq.nb
  have hv := hR.1
  have h0 := h11.O4
  have h10 := h11.O0
  have hu16 : (aun A).1 ≤ 16 := hA.2.2.1
  refine C_of (by decide) (Nat.le_of_ble_eq_true rfl) ?_
  refine V_aload_n (pc := 0) dX0_pullPin_0 rfl ?_
  refine V_getR (pc := 1) 0 0 dX0_pullPin_1 flX0_41 (by decide) h0.o h0.R0 ?_
  refine V_getR (pc := 4) 10 0 dX0_pullPin_4 flX0_53 (by decide) h10.o h10.R0 ?_
  refine V_astore (pc := 7) (ls' := [(0, _), (1, _), (2, _), (3, _), (4, _)]) dX0_pullPin_7 (by decide) rfl ?_
  refine V_iload_n (pc := 9) dX0_pullPin_9 rfl ?_
  refine V_callSNd (pc := 10) (host := "DowryBoxes") (c_X11_isTooth) dX0_pullPin_10 (by decide) mkX11_isTooth rfl rfl ⟨Nat.le_of_ble_eq_true rfl, Nat.le_of_ble_eq_true rfl⟩ (Nat.le_of_ble_eq_true rfl) ⟨Nat.le_of_ble_eq_true rfl, Nat.le_of_ble_eq_true rfl⟩ ?_
  refine V_if_eqB (pc := 13) (tgt := 23) dX0_pullPin_13 (by decide) (fun c13 => ?_) (fun n13 => ?_)
  · skip
    have hb : ¬ (bnd x 8 = true ∧ bnd y 8 = true) := by
      first
        | exact fun w => by rw [w.1] at c13; exact absurd c13 (by decide)
        | exact fun w => by rw [w.2] at n20; exact absurd n20 (by decide)
    rw [dPull, if_neg hb]
    refine V_iconst (pc := 23) (v := (-1)) dX0_pullPin_23 (by decide) ?_
    refine V_iret (pc := 24) dX0_pullPin_24 rfl (by first | decide | omega) (by first | decide | omega) ?_
    exact ⟨rfl, rfl, rfl, hR, fun _ _ _ _ _ => rfl⟩
  · skip
    refine V_iload_n (pc := 16) dX0_pullPin_16 rfl ?_
    refine V_callSNd (pc := 17) (host := "DowryBoxes") (c_X11_isBar) dX0_pullPin_17 (by decide) mkX11_isBar rfl rfl ⟨Nat.le_of_ble_eq_true rfl, Nat.le_of_ble_eq_true rfl⟩ (Nat.le_of_ble_eq_true rfl) ⟨Nat.le_of_ble_eq_true rfl, Nat.le_of_ble_eq_true rfl⟩ ?_
    refine V_if_neB (pc := 20) (tgt := 25) dX0_pullPin_20 (by decide) (fun c20 => ?_) (fun n20 => ?_)
    · skip
      rw [dPull, if_pos ⟨n13, c20⟩]
      obtain ⟨t, ht, hx⟩ := bnd_ex (by omega) n13
      obtain ⟨j, hj, hy⟩ := bnd_ex (by omega) c20
      subst hx hy
      rw [cln_nI (by omega), cln_nI (by omega)]
      refine V_aload (pc := 25) dX0_pullPin_25 rfl ?_
      refine V_iload_n (pc := 27) dX0_pullPin_27 rfl ?_
      refine V_callVd (pc := 28) (ci := 9) (c_X9_hasBox h10.O0 hv.1 hq) dX0_pullPin_28 mlX0_65 mkX9_hasBox rfl rfl h10.O0.o ⟨by decide, rfl⟩ ⟨Nat.le_of_ble_eq_true rfl, Nat.le_of_ble_eq_true rfl⟩ (Nat.le_of_ble_eq_true rfl) ⟨Nat.le_of_ble_eq_true rfl, Nat.le_of_ble_eq_true rfl⟩ ?_
      refine V_if_neB (pc := 31) (tgt := 37) dX0_pullPin_31 (by decide) (fun c31 => ?_) (fun n31 => ?_)
      · skip
        rw [if_pos c31]
        obtain ⟨b, hb, hz⟩ := bnd_ex (by omega) c31
        subst hz
        rw [cln_nI (by omega)]
        have hpi := hq.pi b j (by omega) hj
        have e8 : 8 + 8 * b + j = 8 + (b * 8 + j) := by omega
        refine V_iload_n (pc := 37) dX0_pullPin_37 rfl ?_
        refine V_bipush (pc := 38) (v := nI 8) dX0_pullPin_38 (by decide) ?_
        refine V_imulN (pc := 40) dX0_pullPin_40 ?_
        refine V_iload_n (pc := 41) dX0_pullPin_41 rfl ?_
        refine V_iaddN (pc := 42) dX0_pullPin_42 ?_
        refine V_istore (pc := 43) (ls' := [(0, _), (1, _), (2, _), (3, _), (4, _), (5, _)]) dX0_pullPin_43 (by decide) rfl ?_
        refine V_aload (pc := 45) dX0_pullPin_45 rfl ?_
        refine V_getR (pc := 47) 9 1 dX0_pullPin_47 flX0_68 (by decide) h10.O0.o h10.O0.R1 ?_
        refine V_iload (pc := 50) dX0_pullPin_50 rfl ?_
        refine V_ialoadE (pc := 52) dX0_pullPin_52 h10.O0.A1 (by first | decide | omega) (by omega) (hv.1.pi (by omega) hj) ?_
        refine V_iload_n (pc := 53) dX0_pullPin_53 rfl ?_
        refine V_ishrN (pc := 54) dX0_pullPin_54 (by omega) (by omega) ?_
        refine V_iconst (pc := 55) (v := nI 1) dX0_pullPin_55 (by decide) ?_
        refine V_iand1 (pc := 56) dX0_pullPin_56 ?_
        refine V_if_neN (pc := 57) (tgt := 63) dX0_pullPin_57 (by decide) (by omega) (fun c57 => ?_) (fun n57 => ?_)
        · skip
          have hbit : aq A (8 + 8 * b + j) / 2 ^ t % 2 = 1 := by omega
          rw [if_pos hbit]
          refine V_aload_n (pc := 63) dX0_pullPin_63 rfl ?_
          refine V_getR (pc := 64) 0 3 dX0_pullPin_64 flX0_12 (by decide) h0.o h0.R3 ?_
          refine V_iconst (pc := 67) (v := nI 0) dX0_pullPin_67 (by decide) ?_
          refine V_aload (pc := 68) dX0_pullPin_68 rfl ?_
          refine V_callV (pc := 70) (ci := 2) (c_X2_put h0.O3 h10.O0 hv.1 hR.2.2.1 hu16 (by omega)) dX0_pullPin_70 mlX0_73 mkX2_put rfl rfl h0.O3.o ⟨by decide, rfl⟩ ⟨Nat.le_of_ble_eq_true rfl, Nat.le_of_ble_eq_true rfl⟩ (Nat.le_of_ble_eq_true rfl) ⟨Nat.le_of_ble_eq_true rfl, Nat.le_of_ble_eq_true rfl⟩ (fun r S' I' L' hp => ?_)
          obtain ⟨rfl, rfl, rfl, hh, hf⟩ := hp
          have hR1 : CR E S B I' (rem1 A 0) := hR.tu (fun x hx => hf x (by omega)) hh
          have hv1 : VgM I' (B + 36) (aq A) := hR1.1
          have hp2 := p2_8 t ht
          refine V_aload (pc := 73) dX0_pullPin_73 rfl ?_
          refine V_getR (pc := 75) 9 1 dX0_pullPin_75 flX0_68 (by decide) h10.O0.o h10.O0.R1 ?_
          refine V_iload (pc := 78) dX0_pullPin_78 rfl ?_
          refine V_dup2 (pc := 80) dX0_pullPin_80 rfl rfl ?_
          refine V_ialoadE (pc := 81) dX0_pullPin_81 h10.O0.A1 (by first | decide | omega) (by omega) (hv1.1.pi (by omega) hj) ?_
          refine V_iconst (pc := 82) (v := nI 1) dX0_pullPin_82 (by decide) ?_
          refine V_iload_n (pc := 83) dX0_pullPin_83 rfl ?_
          refine V_ishlN (pc := 84) dX0_pullPin_84 (by omega) (by omega) ?_
          refine V_iconst (pc := 85) (v := (-1)) dX0_pullPin_85 (by decide) ?_
          refine V_ixor (pc := 86) dX0_pullPin_86 ?_
          refine V_iandX (pc := 87) dX0_pullPin_87 hpi ?_
          rw [andn_bit _ hpi _ ht, if_pos hbit]
          have hq2 : wq (setq (aq A) (8 + 8 * b + j) (aq A (8 + 8 * b + j) - 2 ^ t)) := hq.pin hb hj (by omega)
          have hvl : VlM (up2 I' (B + 36 + 1 + 1) (b * 8 + j) (nI (aq A (8 + 8 * b + j) - 2 ^ t))) (B + 36 + 1) (setq (aq A) (8 + 8 * b + j) (aq A (8 + 8 * b + j) - 2 ^ t)) := by rw [e8]; exact hv1.1.u1 (by omega)
          refine V_iastore (pc := 88) dX0_pullPin_88 h10.O0.A1 (by first | decide | omega) (by omega) ?_
          refine V_aload (pc := 89) dX0_pullPin_89 rfl ?_
          refine V_iload_n (pc := 91) dX0_pullPin_91 rfl ?_
          refine V_callVd (pc := 92) (ci := 9) (c_X9_notes h10.O0 hvl hq2 (by omega)) dX0_pullPin_92 mlX0_77 mkX9_notes rfl rfl h10.O0.o ⟨by decide, rfl⟩ ⟨Nat.le_of_ble_eq_true rfl, Nat.le_of_ble_eq_true rfl⟩ (Nat.le_of_ble_eq_true rfl) ⟨Nat.le_of_ble_eq_true rfl, Nat.le_of_ble_eq_true rfl⟩ ?_
          refine V_iret (pc := 95) dX0_pullPin_95 rfl (by first | decide | omega) (by first | decide | omega) ?_
          refine ⟨rfl, rfl, rfl, ?_, fun x a1 a2 a3 a4 => by rw [up2_row (by omega)]; exact hf x (by omega)⟩
          exact hR1.tq (fun x hx => up2_row (by omega)) (hv1.vl hvl (fun a a1 a2 => up2_row (by omega)) (fun i hi => setq_n (by omega))) (setq_n (by omega)) (Or.inl (setq_n (by omega)))
        · skip
          refine V_bipush (pc := 60) (v := (-3)) dX0_pullPin_60 (by decide) ?_
          refine V_iret (pc := 62) dX0_pullPin_62 rfl (by first | decide | omega) (by first | decide | omega) ?_
          rw [if_neg (by omega)]
          exact ⟨rfl, rfl, rfl, hR, fun _ _ _ _ _ => rfl⟩
      · skip
        refine V_bipush (pc := 34) (v := (-2)) dX0_pullPin_34 (by decide) ?_
        refine V_iret (pc := 36) dX0_pullPin_36 rfl (by first | decide | omega) (by first | decide | omega) ?_
        rw [if_neg (by rw [n31]; decide)]
        exact ⟨rfl, rfl, rfl, hR, fun _ _ _ _ _ => rfl⟩
    · skip
      have hb : ¬ (bnd x 8 = true ∧ bnd y 8 = true) := by
        first
          | exact fun w => by rw [w.1] at c13; exact absurd c13 (by decide)
          | exact fun w => by rw [w.2] at n20; exact absurd n20 (by decide)
      rw [dPull, if_neg hb]
      refine V_iconst (pc := 23) (v := (-1)) dX0_pullPin_23 (by decide) ?_
      refine V_iret (pc := 24) dX0_pullPin_24 rfl (by first | decide | omega) (by first | decide | omega) ?_
      exact ⟨rfl, rfl, rfl, hR, fun _ _ _ _ _ => rfl⟩
theorem c_X0_snapTooth (h11 : Lay11 E S B) (hR : CR E S B I A) (hA : wfA A) {x y : Int32} : Cdd E kX0_snapTooth 3 [.ref (B + 82), .int x, .int y] S I L B (dv (dSnap A x y)) (dSnap A x y).2.2 := by
  have hq := hA.q
  have hnb := hq.nb
  have hv := hR.1
  have h0 := h11.O4
  have h10 := h11.O0
  have hu16 : (aun A).1 ≤ 16 := hA.2.2.1
  refine C_of (by decide) (Nat.le_of_ble_eq_true rfl) ?_
  refine V_aload_n (pc := 0) dX0_snapTooth_0 rfl ?_
  refine V_getR (pc := 1) 0 0 dX0_snapTooth_1 flX0_41 (by decide) h0.o h0.R0 ?_
  refine V_getR (pc := 4) 10 0 dX0_snapTooth_4 flX0_53 (by decide) h10.o h10.R0 ?_
  refine V_astore_n (pc := 7) (ls' := [(0, _), (1, _), (2, _), (3, _)]) dX0_snapTooth_7 (by decide) rfl ?_
  refine V_iload_n (pc := 8) dX0_snapTooth_8 rfl ?_
  refine V_callSNd (pc := 9) (host := "DowryBoxes") (c_X11_isTooth) dX0_snapTooth_9 (by decide) mkX11_isTooth rfl rfl ⟨Nat.le_of_ble_eq_true rfl, Nat.le_of_ble_eq_true rfl⟩ (Nat.le_of_ble_eq_true rfl) ⟨Nat.le_of_ble_eq_true rfl, Nat.le_of_ble_eq_true rfl⟩ ?_
  refine V_if_neB (pc := 12) (tgt := 17) dX0_snapTooth_12 (by decide) (fun c12 => ?_) (fun n12 => ?_)
  · skip
    rw [dSnap, if_pos c12]
    obtain ⟨t, ht, hx⟩ := bnd_ex (by omega) c12
    subst hx
    rw [cln_nI (by omega)]
    refine V_aload_n (pc := 17) dX0_snapTooth_17 rfl ?_
    refine V_iload_n (pc := 18) dX0_snapTooth_18 rfl ?_
    refine V_callVd (pc := 19) (ci := 9) (c_X9_hasBox h10.O0 hv.1 hq) dX0_snapTooth_19 mlX0_65 mkX9_hasBox rfl rfl h10.O0.o ⟨by decide, rfl⟩ ⟨Nat.le_of_ble_eq_true rfl, Nat.le_of_ble_eq_true rfl⟩ (Nat.le_of_ble_eq_true rfl) ⟨Nat.le_of_ble_eq_true rfl, Nat.le_of_ble_eq_true rfl⟩ ?_
    refine V_if_neB (pc := 22) (tgt := 28) dX0_snapTooth_22 (by decide) (fun c22 => ?_) (fun n22 => ?_)
    · skip
      rw [if_pos c22]
      obtain ⟨b, hb, hz⟩ := bnd_ex (by omega) c22
      subst hz
      rw [cln_nI (by omega)]
      have hbr := hq.br b (by omega)
      refine V_aload_n (pc := 28) dX0_snapTooth_28 rfl ?_
      refine V_getR (pc := 29) 9 2 dX0_snapTooth_29 flX0_81 (by decide) h10.O0.o h10.O0.R2 ?_
      refine V_iload_n (pc := 32) dX0_snapTooth_32 rfl ?_
      refine V_ialoadE (pc := 33) dX0_snapTooth_33 h10.O0.A2 (by first | decide | omega) (by omega) (hv.1.2.2.1 b (by omega)) ?_
      refine V_iload_n (pc := 34) dX0_snapTooth_34 rfl ?_
      refine V_ishrN (pc := 35) dX0_snapTooth_35 (by omega) (by omega) ?_
      refine V_iconst (pc := 36) (v := nI 1) dX0_snapTooth_36 (by decide) ?_
      refine V_iand1 (pc := 37) dX0_snapTooth_37 ?_
      refine V_iconst (pc := 38) (v := nI 1) dX0_snapTooth_38 (by decide) ?_
      refine V_icmp_neN (pc := 39) (tgt := 45) dX0_snapTooth_39 (by decide) (by omega) (by omega) (fun c39 => ?_) (fun n39 => ?_)
      · skip
        rw [if_neg c39]
        refine V_aload_n (pc := 45) dX0_snapTooth_45 rfl ?_
        refine V_getR (pc := 46) 0 3 dX0_snapTooth_46 flX0_12 (by decide) h0.o h0.R3 ?_
        refine V_iconst (pc := 49) (v := nI 1) dX0_snapTooth_49 (by decide) ?_
        refine V_aload_n (pc := 50) dX0_snapTooth_50 rfl ?_
        refine V_callV (pc := 51) (ci := 2) (c_X2_put h0.O3 h10.O0 hv.1 hR.2.2.1 hu16 (by omega)) dX0_snapTooth_51 mlX0_73 mkX2_put rfl rfl h0.O3.o ⟨by decide, rfl⟩ ⟨Nat.le_of_ble_eq_true rfl, Nat.le_of_ble_eq_true rfl⟩ (Nat.le_of_ble_eq_true rfl) ⟨Nat.le_of_ble_eq_true rfl, Nat.le_of_ble_eq_true rfl⟩ (fun r S' I' L' hp => ?_)
        obtain ⟨rfl, rfl, rfl, hh, hf⟩ := hp
        have hR1 : CR E S B I' (rem1 A 1) := hR.tu (fun x hx => hf x (by omega)) hh
        have hv1 : VgM I' (B + 36) (aq A) := hR1.1
        have hp2 := p2_8 t ht
        refine V_aload_n (pc := 54) dX0_snapTooth_54 rfl ?_
        refine V_getR (pc := 55) 9 2 dX0_snapTooth_55 flX0_81 (by decide) h10.O0.o h10.O0.R2 ?_
        refine V_iload_n (pc := 58) dX0_snapTooth_58 rfl ?_
        refine V_dup2 (pc := 59) dX0_snapTooth_59 rfl rfl ?_
        refine V_ialoadE (pc := 60) dX0_snapTooth_60 h10.O0.A2 (by first | decide | omega) (by omega) (hv1.1.2.2.1 b (by omega)) ?_
        refine V_iconst (pc := 61) (v := nI 1) dX0_snapTooth_61 (by decide) ?_
        refine V_iload_n (pc := 62) dX0_snapTooth_62 rfl ?_
        refine V_ishlN (pc := 63) dX0_snapTooth_63 (by omega) (by omega) ?_
        refine V_iorN (pc := 64) dX0_snapTooth_64 ?_
        rw [or_bit _ hbr _ ht c39]
        have hlt : aq A (56 + b) + 2 ^ t < 256 := by rw [← or_bit _ hbr _ ht c39]; exact Nat.or_lt_two_pow (n := 8) hbr hp2
        have hq2 : wq (setq (aq A) (56 + b) (aq A (56 + b) + 2 ^ t)) := hq.bro hb hlt
        have hvl : VlM (up2 I' (B + 36 + 1 + 2) b (nI (aq A (56 + b) + 2 ^ t))) (B + 36 + 1) (setq (aq A) (56 + b) (aq A (56 + b) + 2 ^ t)) := hv1.1.u2 (by omega)
        refine V_iastore (pc := 65) dX0_snapTooth_65 h10.O0.A2 (by first | decide | omega) (by omega) ?_
        refine V_aload_n (pc := 66) dX0_snapTooth_66 rfl ?_
        refine V_iload_n (pc := 67) dX0_snapTooth_67 rfl ?_
        refine V_callVd (pc := 68) (ci := 9) (c_X9_notes h10.O0 hvl hq2 (by omega)) dX0_snapTooth_68 mlX0_77 mkX9_notes rfl rfl h10.O0.o ⟨by decide, rfl⟩ ⟨Nat.le_of_ble_eq_true rfl, Nat.le_of_ble_eq_true rfl⟩ (Nat.le_of_ble_eq_true rfl) ⟨Nat.le_of_ble_eq_true rfl, Nat.le_of_ble_eq_true rfl⟩ ?_
        refine V_iret (pc := 71) dX0_snapTooth_71 rfl (by first | decide | omega) (by first | decide | omega) ?_
        refine ⟨rfl, rfl, rfl, ?_, fun x a1 a2 a3 a4 => by rw [up2_row (by omega)]; exact hf x (by omega)⟩
        exact hR1.tq (fun x hx => up2_row (by omega)) (hv1.vl hvl (fun a a1 a2 => up2_row (by omega)) (fun i hi => setq_n (by omega))) (setq_n (by omega)) (Or.inl (setq_n (by omega)))
      · skip
        refine V_bipush (pc := 42) (v := (-3)) dX0_snapTooth_42 (by decide) ?_
        refine V_iret (pc := 44) dX0_snapTooth_44 rfl (by first | decide | omega) (by first | decide | omega) ?_
        rw [if_pos n39]
        exact ⟨rfl, rfl, rfl, hR, fun _ _ _ _ _ => rfl⟩
    · skip
      refine V_bipush (pc := 25) (v := (-2)) dX0_snapTooth_25 (by decide) ?_
      refine V_iret (pc := 27) dX0_snapTooth_27 rfl (by first | decide | omega) (by first | decide | omega) ?_
      rw [if_neg (by rw [n22]; decide)]
      exact ⟨rfl, rfl, rfl, hR, fun _ _ _ _ _ => rfl⟩
  · skip
    refine V_iconst (pc := 15) (v := (-1)) dX0_snapTooth_15 (by decide) ?_
    refine V_iret (pc := 16) dX0_snapTooth_16 rfl (by first | decide | omega) (by first | decide | omega) ?_
    rw [dSnap, if_neg (by rw [n12]; decide)]
    exact ⟨rfl, rfl, rfl, hR, fun _ _ _ _ _ => rfl⟩
theorem c_X0_wedBox (h11 : Lay11 E S B) (hR : CR E S B I A) (hA : wfA A) {x y : Int32} : Cdd E kX0_wedBox 5 [.ref (B + 82), .int x, .int y] S I L B (dv (dWed A x y)) (dWed A x y).2.2 := by
  have hq := hA.q
  have hnb := hq.nb
  have hns := hq.ns
  have hv := hR.1
  have hl := hR.2.1
  have hlw := hA.law
  have h0 := h11.O4
  have h10 := h11.O0
  have h3 := h11.O3
  have hu16 : (aun A).1 ≤ 16 := hA.2.2.1
  refine C_of (by decide) (Nat.le_of_ble_eq_true rfl) ?_
  refine V_aload_n (pc := 0) dX0_wedBox_0 rfl ?_
  refine V_getR (pc := 1) 0 0 dX0_wedBox_1 flX0_41 (by decide) h0.o h0.R0 ?_
  refine V_getR (pc := 4) 10 0 dX0_wedBox_4 flX0_53 (by decide) h10.o h10.R0 ?_
  refine V_astore_n (pc := 7) (ls' := [(0, _), (1, _), (2, _), (3, _)]) dX0_wedBox_7 (by decide) rfl ?_
  refine V_aload_n (pc := 8) dX0_wedBox_8 rfl ?_
  refine V_iload_n (pc := 9) dX0_wedBox_9 rfl ?_
  refine V_callVd (pc := 10) (ci := 9) (c_X9_hasBox h10.O0 hv.1 hq) dX0_wedBox_10 mlX0_65 mkX9_hasBox rfl rfl h10.O0.o ⟨by decide, rfl⟩ ⟨Nat.le_of_ble_eq_true rfl, Nat.le_of_ble_eq_true rfl⟩ (Nat.le_of_ble_eq_true rfl) ⟨Nat.le_of_ble_eq_true rfl, Nat.le_of_ble_eq_true rfl⟩ ?_
  refine V_if_eqB (pc := 13) (tgt := 27) dX0_wedBox_13 (by decide) (fun c13 => ?_) (fun n13 => ?_)
  · skip
    have hb : ¬ (bnd x (aq A 0) = true ∧ bnd y (aq A 1) = true) := by
      first
        | exact fun w => by rw [w.1] at c13; exact absurd c13 (by decide)
        | exact fun w => by rw [w.2] at n24; exact absurd n24 (by decide)
    rw [dWed, if_neg hb]
    refine V_bipush (pc := 27) (v := (-2)) dX0_wedBox_27 (by decide) ?_
    refine V_iret (pc := 29) dX0_wedBox_29 rfl (by first | decide | omega) (by first | decide | omega) ?_
    exact ⟨rfl, rfl, rfl, hR, fun _ _ _ _ _ => rfl⟩
  · skip
    refine V_aload_n (pc := 16) dX0_wedBox_16 rfl ?_
    refine V_getR (pc := 17) 0 0 dX0_wedBox_17 flX0_41 (by decide) h0.o h0.R0 ?_
    refine V_iload_n (pc := 20) dX0_wedBox_20 rfl ?_
    refine V_callVd (pc := 21) (ci := 10) (c_X10_hasSuitor h10 hv hq) dX0_wedBox_21 mlX0_84 mkX10_hasSuitor rfl rfl h10.o ⟨by decide, rfl⟩ ⟨Nat.le_of_ble_eq_true rfl, Nat.le_of_ble_eq_true rfl⟩ (Nat.le_of_ble_eq_true rfl) ⟨Nat.le_of_ble_eq_true rfl, Nat.le_of_ble_eq_true rfl⟩ ?_
    refine V_if_neB (pc := 24) (tgt := 30) dX0_wedBox_24 (by decide) (fun c24 => ?_) (fun n24 => ?_)
    · skip
      rw [dWed, if_pos ⟨n13, c24⟩]
      obtain ⟨b, hb, hx⟩ := bnd_ex (by omega) n13
      obtain ⟨s, hs, hy⟩ := bnd_ex (by omega) c24
      subst hx hy
      rw [cln_nI (by omega), cln_nI (by omega)]
      have hwe := hq.we b (by omega)
      have hbo := bof_le (aq A) s (aq A 0)
      refine V_aload_n (pc := 30) dX0_wedBox_30 rfl ?_
      refine V_getR (pc := 31) 9 4 dX0_wedBox_31 flX0_87 (by decide) h10.O0.o h10.O0.R4 ?_
      refine V_iload_n (pc := 34) dX0_wedBox_34 rfl ?_
      refine V_ialoadE (pc := 35) dX0_wedBox_35 h10.O0.A4 (by first | decide | omega) (by omega) (hv.1.2.2.2.2.1 b (by omega)) ?_
      refine V_iconst (pc := 36) (v := (-1)) dX0_wedBox_36 (by decide) ?_
      refine V_icmp_ne (pc := 37) (tgt := 65) dX0_wedBox_37 (by decide) (fun c37 => ?_) (fun n37 => ?_)
      · skip
        refine V_bipush (pc := 65) (v := (-3)) dX0_wedBox_65 (by decide) ?_
        refine V_iret (pc := 67) dX0_wedBox_67 rfl (by first | decide | omega) (by first | decide | omega) ?_
        first
          | (rw [if_neg (fun w => c37 ((pred1_none (by omega)).mpr w.1))]
             exact ⟨rfl, rfl, rfl, hR, fun _ _ _ _ _ => rfl⟩)
          | (rw [if_neg (fun w => c46 ((pred1_none (by omega)).mpr w.2.1))]
             exact ⟨rfl, rfl, rfl, hR, fun _ _ _ _ _ => rfl⟩)
          | (rw [if_neg (fun w => by have h2 : brd (lwf A) (aq A) b s = false := w.2.2.1; have h1 : brd (lwf A) (aq A) b s = true := n62; rw [h1] at h2; exact absurd h2 (by decide))]
             exact ⟨rfl, rfl, rfl, hR.dd (DdC.ofj hf), fun x a1 a2 a3 a4 => hf x a4 a3⟩)
      · skip
        refine V_aload_n (pc := 40) dX0_wedBox_40 rfl ?_
        refine V_iload_n (pc := 41) dX0_wedBox_41 rfl ?_
        refine V_callVd (pc := 42) (ci := 9) (c_X9_boxOf h10.O0 hv.1 hq (by omega)) dX0_wedBox_42 mlX0_90 mkX9_boxOf rfl rfl h10.O0.o ⟨by decide, rfl⟩ ⟨Nat.le_of_ble_eq_true rfl, Nat.le_of_ble_eq_true rfl⟩ (Nat.le_of_ble_eq_true rfl) ⟨Nat.le_of_ble_eq_true rfl, Nat.le_of_ble_eq_true rfl⟩ ?_
        refine V_iconst (pc := 45) (v := (-1)) dX0_wedBox_45 (by decide) ?_
        refine V_icmp_ne (pc := 46) (tgt := 65) dX0_wedBox_46 (by decide) (fun c46 => ?_) (fun n46 => ?_)
        · skip
          refine V_bipush (pc := 65) (v := (-3)) dX0_wedBox_65 (by decide) ?_
          refine V_iret (pc := 67) dX0_wedBox_67 rfl (by first | decide | omega) (by first | decide | omega) ?_
          first
            | (rw [if_neg (fun w => c37 ((pred1_none (by omega)).mpr w.1))]
               exact ⟨rfl, rfl, rfl, hR, fun _ _ _ _ _ => rfl⟩)
            | (rw [if_neg (fun w => c46 ((pred1_none (by omega)).mpr w.2.1))]
               exact ⟨rfl, rfl, rfl, hR, fun _ _ _ _ _ => rfl⟩)
            | (rw [if_neg (fun w => by have h2 : brd (lwf A) (aq A) b s = false := w.2.2.1; have h1 : brd (lwf A) (aq A) b s = true := n62; rw [h1] at h2; exact absurd h2 (by decide))]
               exact ⟨rfl, rfl, rfl, hR.dd (DdC.ofj hf), fun x a1 a2 a3 a4 => hf x a4 a3⟩)
        · skip
          refine V_aload_n (pc := 49) dX0_wedBox_49 rfl ?_
          refine V_getR (pc := 50) 0 1 dX0_wedBox_50 flX0_45 (by decide) h0.o h0.R1 ?_
          refine V_aload_n (pc := 53) dX0_wedBox_53 rfl ?_
          refine V_getR (pc := 54) 0 0 dX0_wedBox_54 flX0_41 (by decide) h0.o h0.R0 ?_
          refine V_iload_n (pc := 57) dX0_wedBox_57 rfl ?_
          refine V_iload_n (pc := 58) dX0_wedBox_58 rfl ?_
          refine V_callV (pc := 59) (ci := 3) (c_X3_isBarred h3 h10 hv hq hl hlw.1 hlw.2.2 (fun z z1 z2 => by omega) (by omega) (by omega) (by omega)) dX0_wedBox_59 mlX0_93 mkX3_isBarred rfl rfl h0.O1.o ⟨by decide, rfl⟩ ⟨Nat.le_of_ble_eq_true rfl, Nat.le_of_ble_eq_true rfl⟩ (Nat.le_of_ble_eq_true rfl) ⟨Nat.le_of_ble_eq_true rfl, Nat.le_of_ble_eq_true rfl⟩ (fun r S' I' L' hp => ?_)
          obtain ⟨rfl, rfl, rfl, hf⟩ := hp
          refine V_if_eqB (pc := 62) (tgt := 68) dX0_wedBox_62 (by decide) (fun c62 => ?_) (fun n62 => ?_)
          · skip
            have hRj := hR.dd (DdC.ofj hf)
            have hvj := hRj.1
            refine V_aload_n (pc := 68) dX0_wedBox_68 rfl ?_
            refine V_getR (pc := 69) 0 1 dX0_wedBox_69 flX0_45 (by decide) h0.o h0.R1 ?_
            refine V_aload_n (pc := 72) dX0_wedBox_72 rfl ?_
            refine V_getR (pc := 73) 0 0 dX0_wedBox_73 flX0_41 (by decide) h0.o h0.R0 ?_
            refine V_callV (pc := 76) (ci := 10) (c_X10_lawInForce h10 hvj hq hRj.2.1) dX0_wedBox_76 mlX0_99 mkX10_lawInForce rfl rfl h10.o ⟨by decide, rfl⟩ ⟨Nat.le_of_ble_eq_true rfl, Nat.le_of_ble_eq_true rfl⟩ (Nat.le_of_ble_eq_true rfl) ⟨Nat.le_of_ble_eq_true rfl, Nat.le_of_ble_eq_true rfl⟩ (fun r S' I' L' hp => ?_)
            obtain ⟨⟨a, rfl, hT, hta⟩, rfl, rfl, rfl⟩ := hp
            unfold txa at hta
            refine V_aload_n (pc := 79) dX0_wedBox_79 rfl ?_
            refine V_iload_n (pc := 80) dX0_wedBox_80 rfl ?_
            refine V_callV (pc := 81) (ci := 3) (c_X3_lasting h3 h10.O0 hvj.1 hq (fun z z1 z2 => by omega) hT hlw.1 ⟨fun z z1 z2 => by omega, by omega⟩ (by omega)) dX0_wedBox_81 mlX0_103 mkX3_lasting rfl rfl h0.O1.o ⟨by decide, rfl⟩ ⟨Nat.le_of_ble_eq_true rfl, Nat.le_of_ble_eq_true rfl⟩ (Nat.le_of_ble_eq_true rfl) ⟨Nat.le_of_ble_eq_true rfl, Nat.le_of_ble_eq_true rfl⟩ (fun r S' I' L' hp => ?_)
            obtain ⟨rfl, rfl, rfl, hf2⟩ := hp
            have hRk := hRj.dd (DdC.ofj hf2)
            have hvk := hRk.1
            have hls : lst (lwq (aq A) (alw A)) (aq A) b ≤ 60 := clampN_le _ _
            refine V_istore (pc := 84) (ls' := [(0, _), (1, _), (2, _), (3, _), (4, _)]) dX0_wedBox_84 (by decide) rfl ?_
            refine V_iload (pc := 86) dX0_wedBox_86 rfl ?_
            refine V_iconst (pc := 88) (v := nI 1) dX0_wedBox_88 (by decide) ?_
            refine V_icmp_geN (pc := 89) (tgt := 95) dX0_wedBox_89 (by decide) (by omega) (by omega) (fun c89 => ?_) (fun n89 => ?_)
            · skip
              have hz : ¬ lst (lwq (aq A) (alw A)) (aq A) b = 0 := by omega
              rw [if_pos ⟨(pred1_none (by omega)).mp n37, (pred1_none (by omega)).mp n46, c62, hz⟩]
              refine V_aload_n (pc := 95) dX0_wedBox_95 rfl ?_
              refine V_getR (pc := 96) 0 3 dX0_wedBox_96 flX0_12 (by decide) h0.o h0.R3 ?_
              refine V_iconst (pc := 99) (v := nI 2) dX0_wedBox_99 (by decide) ?_
              refine V_aload_n (pc := 100) dX0_wedBox_100 rfl ?_
              refine V_callV (pc := 101) (ci := 2) (c_X2_put h0.O3 h10.O0 hvk.1 hRk.2.2.1 hu16 (by omega)) dX0_wedBox_101 mlX0_73 mkX2_put rfl rfl h0.O3.o ⟨by decide, rfl⟩ ⟨Nat.le_of_ble_eq_true rfl, Nat.le_of_ble_eq_true rfl⟩ (Nat.le_of_ble_eq_true rfl) ⟨Nat.le_of_ble_eq_true rfl, Nat.le_of_ble_eq_true rfl⟩ (fun r S' I' L' hp => ?_)
              obtain ⟨rfl, rfl, rfl, hh, hf3⟩ := hp
              have hR1 := hRk.tu (fun x hx => hf3 x (by omega)) hh
              have hv1 : VgM I' (B + 36) (aq A) := hR1.1
              refine V_aload_n (pc := 104) dX0_wedBox_104 rfl ?_
              refine V_getR (pc := 105) 9 4 dX0_wedBox_105 flX0_87 (by decide) h10.O0.o h10.O0.R4 ?_
              refine V_iload_n (pc := 108) dX0_wedBox_108 rfl ?_
              refine V_iload_n (pc := 109) dX0_wedBox_109 rfl ?_
              refine V_iastore (pc := 110) dX0_wedBox_110 h10.O0.A4 (by first | decide | omega) (by omega) ?_
              refine V_aload_n (pc := 111) dX0_wedBox_111 rfl ?_
              refine V_getR (pc := 112) 9 5 dX0_wedBox_112 flX0_107 (by decide) h10.O0.o h10.O0.R5 ?_
              refine V_iload_n (pc := 115) dX0_wedBox_115 rfl ?_
              refine V_iload (pc := 116) dX0_wedBox_116 rfl ?_
              refine V_iastore (pc := 118) dX0_wedBox_118 h10.O0.A5 (by first | decide | omega) (by omega) ?_
              refine V_iload (pc := 119) dX0_wedBox_119 rfl ?_
              refine V_iret (pc := 121) dX0_wedBox_121 rfl (by first | decide | omega) (by first | decide | omega) ?_
              refine ⟨rfl, rfl, rfl, ?_, fun x a1 a2 a3 a4 => by rw [up2_row (by omega), up2_row (by omega), hf3 x (by omega), hf2 x a4 a3]; exact hf x a4 a3⟩
              have hvl := (hv1.1.u4 (b := b) (n := s + 1) (by omega)).u5 (b := b) (n := lst (lwf A) (aq A) b) (by omega)
              rw [pred1_s] at hvl
              exact hR1.tq (fun x hx => by rw [up2_row (by omega), up2_row (by omega)]) (hv1.vl hvl (fun a a1 a2 => by rw [up2_row (by omega), up2_row (by omega)]) (fun i hi => by rw [setq_n (by omega), setq_n (by omega)])) ((setq_n (by omega)).trans (setq_n (by omega))) (Or.inl ((setq_n (by omega)).trans (setq_n (by omega))))
            · skip
              refine V_bipush (pc := 92) (v := (-3)) dX0_wedBox_92 (by decide) ?_
              refine V_iret (pc := 94) dX0_wedBox_94 rfl (by first | decide | omega) (by first | decide | omega) ?_
              have hz : lst (lwq (aq A) (alw A)) (aq A) b = 0 := by omega
              rw [if_neg (fun w => w.2.2.2 hz)]
              exact ⟨rfl, rfl, rfl, hRk, fun x a1 a2 a3 a4 => (hf2 x a4 a3).trans (hf x a4 a3)⟩
          · skip
            refine V_bipush (pc := 65) (v := (-3)) dX0_wedBox_65 (by decide) ?_
            refine V_iret (pc := 67) dX0_wedBox_67 rfl (by first | decide | omega) (by first | decide | omega) ?_
            first
              | (rw [if_neg (fun w => c37 ((pred1_none (by omega)).mpr w.1))]
                 exact ⟨rfl, rfl, rfl, hR, fun _ _ _ _ _ => rfl⟩)
              | (rw [if_neg (fun w => c46 ((pred1_none (by omega)).mpr w.2.1))]
                 exact ⟨rfl, rfl, rfl, hR, fun _ _ _ _ _ => rfl⟩)
              | (rw [if_neg (fun w => by have h2 : brd (lwf A) (aq A) b s = false := w.2.2.1; have h1 : brd (lwf A) (aq A) b s = true := n62; rw [h1] at h2; exact absurd h2 (by decide))]
                 exact ⟨rfl, rfl, rfl, hR.dd (DdC.ofj hf), fun x a1 a2 a3 a4 => hf x a4 a3⟩)
    · skip
      have hb : ¬ (bnd x (aq A 0) = true ∧ bnd y (aq A 1) = true) := by
        first
          | exact fun w => by rw [w.1] at c13; exact absurd c13 (by decide)
          | exact fun w => by rw [w.2] at n24; exact absurd n24 (by decide)
      rw [dWed, if_neg hb]
      refine V_bipush (pc := 27) (v := (-2)) dX0_wedBox_27 (by decide) ?_
      refine V_iret (pc := 29) dX0_wedBox_29 rfl (by first | decide | omega) (by first | decide | omega) ?_
      exact ⟨rfl, rfl, rfl, hR, fun _ _ _ _ _ => rfl⟩
theorem c_X0_passYear (h11 : Lay11 E S B) (hR : CR E S B I A) (hA : wfA A) : Cdd E kX0_passYear 5 [.ref (B + 82)] S I L B (dv (dPass A)) (dPass A).2.2 := by
  have hq := hA.q
  have hnb := hq.nb
  have hye := hq.ye
  have hye0 : aq A (5 + 0) ≤ 999 := hye
  have hv := hR.1
  have hlw := hA.law
  have h0 := h11.O4
  have h10 := h11.O0
  have hu16 : (aun A).1 ≤ 16 := hA.2.2.1
  refine C_of (by decide) (Nat.le_of_ble_eq_true rfl) ?_
  refine V_aload_n (pc := 0) dX0_passYear_0 rfl ?_
  refine V_getR (pc := 1) 0 0 dX0_passYear_1 flX0_41 (by decide) h0.o h0.R0 ?_
  refine V_getR (pc := 4) 10 0 dX0_passYear_4 flX0_53 (by decide) h10.o h10.R0 ?_
  refine V_astore_n (pc := 7) (ls' := [(0, _), (1, _)]) dX0_passYear_7 (by decide) rfl ?_
  refine V_aload_n (pc := 8) dX0_passYear_8 rfl ?_
  refine V_getR (pc := 9) 9 6 dX0_passYear_9 flX0_110 (by decide) h10.O0.o h10.O0.R6 ?_
  refine V_iconst (pc := 12) (v := nI 0) dX0_passYear_12 (by decide) ?_
  refine V_ialoadE (pc := 13) dX0_passYear_13 h10.O0.A6 (by first | decide | omega) (by omega) (hv.1.2.2.2.2.2.2 0 (by omega)) ?_
  refine V_sipush (pc := 14) (v := nI 999) dX0_passYear_14 (by decide) ?_
  refine V_icmp_ltN (pc := 17) (tgt := 23) dX0_passYear_17 (by decide) (by omega) (by omega) (fun c17 => ?_) (fun n17 => ?_)
  · skip
    have hlt : aq A 5 < 999 := by have h8 : aq A (5 + 0) = aq A 5 := rfl; omega
    rw [dPass, if_neg (by omega)]
    refine V_aload_n (pc := 23) dX0_passYear_23 rfl ?_
    refine V_getR (pc := 24) 0 3 dX0_passYear_24 flX0_12 (by decide) h0.o h0.R3 ?_
    refine V_iconst (pc := 27) (v := nI 3) dX0_passYear_27 (by decide) ?_
    refine V_aload_n (pc := 28) dX0_passYear_28 rfl ?_
    refine V_callV (pc := 29) (ci := 2) (c_X2_put h0.O3 h10.O0 hv.1 hR.2.2.1 hu16 (by omega)) dX0_passYear_29 mlX0_73 mkX2_put rfl rfl h0.O3.o ⟨by decide, rfl⟩ ⟨Nat.le_of_ble_eq_true rfl, Nat.le_of_ble_eq_true rfl⟩ (Nat.le_of_ble_eq_true rfl) ⟨Nat.le_of_ble_eq_true rfl, Nat.le_of_ble_eq_true rfl⟩ (fun r S' I' L' hp => ?_)
    obtain ⟨rfl, rfl, rfl, hh, hf⟩ := hp
    have hR1 : CR E S B I' (rem1 A 3) := hR.tu (fun x hx => hf x (by omega)) hh
    have hv1 : VgM I' (B + 36) (aq A) := hR1.1
    refine V_aload_n (pc := 32) dX0_passYear_32 rfl ?_
    refine V_aload_n (pc := 33) dX0_passYear_33 rfl ?_
    refine V_aload_n (pc := 34) dX0_passYear_34 rfl ?_
    refine V_getR (pc := 35) 0 0 dX0_passYear_35 flX0_41 (by decide) h0.o h0.R0 ?_
    refine V_callV (pc := 38) (ci := 10) (c_X10_lawInForce h10 hv1 hq hR1.2.1) dX0_passYear_38 mlX0_99 mkX10_lawInForce rfl rfl h10.o ⟨by decide, rfl⟩ ⟨Nat.le_of_ble_eq_true rfl, Nat.le_of_ble_eq_true rfl⟩ (Nat.le_of_ble_eq_true rfl) ⟨Nat.le_of_ble_eq_true rfl, Nat.le_of_ble_eq_true rfl⟩ (fun r S' I' L' hp => ?_)
    obtain ⟨⟨a, rfl, hT, hta⟩, rfl, rfl, rfl⟩ := hp
    unfold txa at hta
    refine V_callV (pc := 41) (ci := 0) (c_X0_liveYear h0 h10.O0 hv1.1 hq hT hlw.1 hlt ⟨fun z z1 z2 => by omega, fun z z1 z2 => by omega, by omega⟩) dX0_passYear_41 mlX0_113 mkX0_liveYear rfl rfl h0.o ⟨by decide, rfl⟩ ⟨Nat.le_of_ble_eq_true rfl, Nat.le_of_ble_eq_true rfl⟩ (Nat.le_of_ble_eq_true rfl) ⟨Nat.le_of_ble_eq_true rfl, Nat.le_of_ble_eq_true rfl⟩ (fun r S' I' L' hp => ?_)
    obtain ⟨rfl, rfl, rfl, hvl, hf2⟩ := hp
    refine V_pop (pc := 44) dX0_passYear_44 rfl ?_
    refine V_aload_n (pc := 45) dX0_passYear_45 rfl ?_
    refine V_getR (pc := 46) 9 6 dX0_passYear_46 flX0_110 (by decide) h10.O0.o h10.O0.R6 ?_
    refine V_iconst (pc := 49) (v := nI 0) dX0_passYear_49 (by decide) ?_
    refine V_ialoadE (pc := 50) dX0_passYear_50 h10.O0.A6 (by first | decide | omega) (by omega) ((hvl.2.2.2.2.2.2 0 (by omega)).trans (show nI (psq _ (aq A) (5 + 0)) = nI (aq A 5 + 1) from rfl)) ?_
    refine V_iret (pc := 51) dX0_passYear_51 rfl (by first | decide | omega) (by first | decide | omega) ?_
    refine ⟨rfl, rfl, rfl, ?_, fun x a1 a2 a3 a4 => by rw [hf2 x (by omega) (by omega) (by omega)]; exact hf x (by omega)⟩
    exact hR1.tqj (fun x hx y1 y2 => hf2 x (by omega) y2 y1) (hv1.vl hvl (fun a a1 a2 => hf2 a (by omega) (by omega) (by omega)) (fun i hi => psq_o (by omega))) (psq_o (by omega)) (Or.inl (psq_o (by omega)))
  · skip
    refine V_bipush (pc := 20) (v := (-3)) dX0_passYear_20 (by decide) ?_
    refine V_iret (pc := 22) dX0_passYear_22 rfl (by first | decide | omega) (by first | decide | omega) ?_
    have h9 : aq A 5 = 999 := by have h8 : aq A (5 + 0) = aq A 5 := rfl; omega
    rw [dPass, if_pos h9]
    exact ⟨rfl, rfl, rfl, hR, fun _ _ _ _ _ => rfl⟩
end CM
