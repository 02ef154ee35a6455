/-! THE CLASS's public methods, I -/
theorem bnd_le {x : Int32} {n : Nat} (hn : n < 2 ^ 31) (h0 : ¬ x < 0) (h : x ≤ nI n) : bnd x (n + 1) = true := bnd_ngt hn h0 (fun z => Int32.lt_irrefl (Int32.lt_of_lt_of_le z h))
theorem bnd_nle {x : Int32} {n : Nat} (hn : n < 2 ^ 31) (h : ¬ x ≤ nI n) : bnd x (n + 1) = false := bnd_gt hn (Int32.not_le.mp h)
theorem bnd_ltx {x : Int32} {n : Nat} (hn : n < 2 ^ 31) (h0 : ¬ x < 0) (h : x < nI n) : bnd x n = true := bnd_in hn h0 (fun z => Int32.lt_irrefl (Int32.lt_of_lt_of_le h z))
theorem bnd_nlt {x : Int32} {n : Nat} (hn : n < 2 ^ 31) (h : ¬ x < nI n) : bnd x n = false := bnd_hi hn (Int32.not_lt.mp h)
theorem out_of {y : Int32} {n m : Nat} (h : ¬ bnd y n = true) (hm : m < n) : y.toInt < 0 ∨ (m : Int) < y.toInt := by
  have h1 : ¬ (0 ≤ y.toInt ∧ y.toInt < n) := fun z => h (decide_eq_true z)
  omega
theorem out_nI {j m : Nat} (hj : j < 2 ^ 31) (h : m < j) : (nI j).toInt < 0 ∨ (m : Int) < (nI j).toInt := by
  rw [nI_toInt hj]; omega
theorem b78 {y : Int32} (h : bnd (y - nI 7) 8 = true) : bnd y 15 = true := by
  obtain ⟨k, hk, e⟩ := bnd_ex (by omega) h
  have e2 : y = nI (k + 7) := by rw [← nI_add, ← e, Int32.sub_add_cancel]
  rw [e2]; exact bnd_lt (by omega) (by omega)
section CJ1
variable {I : IT} {v g : Nat} {q : Nat → Nat}
theorem VlM.ub (h : VlM I v q) {n : Nat} : VlM (up2 I v 0 (nI n)) v (setq q 0 n) := by
  obtain ⟨h0, h1, h2, h3, h4, h5, h6⟩ := h
  exact ⟨by rw [up2_self, setq_s], fun i hi => by rw [up2_ne (by omega), setq_n (by omega)]; exact h1 i hi, fun i hi => by rw [up2_ne (by omega), setq_n (by omega)]; exact h2 i hi, fun i hi => by rw [up2_ne (by omega), setq_n (by omega)]; exact h3 i hi, fun i hi => by rw [up2_ne (by omega), setq_n (by omega)]; exact h4 i hi, fun i hi => by rw [up2_ne (by omega), setq_n (by omega)]; exact h5 i hi, fun i hi => by rw [up2_ne (by omega), setq_n (by omega)]; exact h6 i hi⟩
theorem upq {f : Nat → Nat → Int32} {a c n m : Nat} {q : Nat → Nat} (h : ∀ i, i < m → f a i = nI (q (c + i))) {b : Nat} : ∀ i, i < m → up2 f a b (nI n) a i = nI (setq q (c + b) n (c + i)) := by
  intro i hi
  by_cases z : i = b
  · subst z; rw [up2_self, setq_s]
  · rw [up2_nej z, setq_n (by omega)]; exact h i hi
theorem VlM.u1 (h : VlM I v q) {b n : Nat} (hb : b < 48) : VlM (up2 I (v + 1) b (nI n)) v (setq q (8 + b) n) := by
  obtain ⟨h0, h1, h2, h3, h4, h5, h6⟩ := h
  exact ⟨by rw [up2_ne (by omega), setq_n (by omega)]; exact h0, upq h1, fun i hi => by rw [up2_ne (by omega), setq_n (by omega)]; exact h2 i hi, fun i hi => by rw [up2_ne (by omega), setq_n (by omega)]; exact h3 i hi, fun i hi => by rw [up2_ne (by omega), setq_n (by omega)]; exact h4 i hi, fun i hi => by rw [up2_ne (by omega), setq_n (by omega)]; exact h5 i hi, fun i hi => by rw [up2_ne (by omega), setq_n (by omega)]; exact h6 i hi⟩
theorem VlM.u2 (h : VlM I v q) {b n : Nat} (hb : b < 6) : VlM (up2 I (v + 2) b (nI n)) v (setq q (56 + b) n) := by
  obtain ⟨h0, h1, h2, h3, h4, h5, h6⟩ := h
  exact ⟨by rw [up2_ne (by omega), setq_n (by omega)]; exact h0, fun i hi => by rw [up2_ne (by omega), setq_n (by omega)]; exact h1 i hi, upq h2, fun i hi => by rw [up2_ne (by omega), setq_n (by omega)]; exact h3 i hi, fun i hi => by rw [up2_ne (by omega), setq_n (by omega)]; exact h4 i hi, fun i hi => by rw [up2_ne (by omega), setq_n (by omega)]; exact h5 i hi, fun i hi => by rw [up2_ne (by omega), setq_n (by omega)]; exact h6 i hi⟩
theorem VlM.u3 (h : VlM I v q) {b n : Nat} (hb : b < 6) : VlM (up2 I (v + 3) b (nI n)) v (setq q (62 + b) n) := by
  obtain ⟨h0, h1, h2, h3, h4, h5, h6⟩ := h
  exact ⟨by rw [up2_ne (by omega), setq_n (by omega)]; exact h0, fun i hi => by rw [up2_ne (by omega), setq_n (by omega)]; exact h1 i hi, fun i hi => by rw [up2_ne (by omega), setq_n (by omega)]; exact h2 i hi, upq h3, fun i hi => by rw [up2_ne (by omega), setq_n (by omega)]; exact h4 i hi, fun i hi => by rw [up2_ne (by omega), setq_n (by omega)]; exact h5 i hi, fun i hi => by rw [up2_ne (by omega), setq_n (by omega)]; exact h6 i hi⟩
theorem VlM.u4 (h : VlM I v q) {b n : Nat} (hb : b < 6) : VlM (up2 I (v + 4) b (pred1 n)) v (setq q (68 + b) n) := by
  obtain ⟨h0, h1, h2, h3, h4, h5, h6⟩ := h
  refine ⟨by rw [up2_ne (by omega), setq_n (by omega)]; exact h0, fun i hi => by rw [up2_ne (by omega), setq_n (by omega)]; exact h1 i hi, fun i hi => by rw [up2_ne (by omega), setq_n (by omega)]; exact h2 i hi, fun i hi => by rw [up2_ne (by omega), setq_n (by omega)]; exact h3 i hi, fun i hi => ?_, fun i hi => by rw [up2_ne (by omega), setq_n (by omega)]; exact h5 i hi, fun i hi => by rw [up2_ne (by omega), setq_n (by omega)]; exact h6 i hi⟩
  by_cases z : i = b
  · subst z; rw [up2_self, setq_s]
  · rw [up2_nej z, setq_n (by omega)]; exact h4 i hi
theorem VlM.u5 (h : VlM I v q) {b n : Nat} (hb : b < 6) : VlM (up2 I (v + 5) b (nI n)) v (setq q (74 + b) n) := by
  obtain ⟨h0, h1, h2, h3, h4, h5, h6⟩ := h
  exact ⟨by rw [up2_ne (by omega), setq_n (by omega)]; exact h0, fun i hi => by rw [up2_ne (by omega), setq_n (by omega)]; exact h1 i hi, fun i hi => by rw [up2_ne (by omega), setq_n (by omega)]; exact h2 i hi, fun i hi => by rw [up2_ne (by omega), setq_n (by omega)]; exact h3 i hi, fun i hi => by rw [up2_ne (by omega), setq_n (by omega)]; exact h4 i hi, upq h5, fun i hi => by rw [up2_ne (by omega), setq_n (by omega)]; exact h6 i hi⟩
theorem VlM.u6 (h : VlM I v q) {b n : Nat} (hb : b < 3) : VlM (up2 I (v + 6) b (nI n)) v (setq q (5 + b) n) := by
  obtain ⟨h0, h1, h2, h3, h4, h5, h6⟩ := h
  exact ⟨by rw [up2_ne (by omega), setq_n (by omega)]; exact h0, fun i hi => by rw [up2_ne (by omega), setq_n (by omega)]; exact h1 i hi, fun i hi => by rw [up2_ne (by omega), setq_n (by omega)]; exact h2 i hi, fun i hi => by rw [up2_ne (by omega), setq_n (by omega)]; exact h3 i hi, fun i hi => by rw [up2_ne (by omega), setq_n (by omega)]; exact h4 i hi, fun i hi => by rw [up2_ne (by omega), setq_n (by omega)]; exact h5 i hi, upq h6⟩
/-- the village, its valley anew -/
theorem VgM.vl {I' : IT} {q' : Nat → Nat} (h : VgM I g q) (hv : VlM I' (g + 1) q') (e : ∀ a, (a = g ∨ g + 8 ≤ a) → a ≤ g + 12 → I' a = I a) (eq : ∀ i, (1 ≤ i ∧ i < 5 ∨ 80 ≤ i) → q' i = q i) : VgM I' g q' := by
  obtain ⟨-, h2, h3, h4, h5, h6, h7, h8⟩ := h
  refine ⟨hv, by rw [e g (by omega) (by omega), eq 1 (by omega)]; exact h2, fun s hs => by rw [e _ (by omega) (by omega), eq _ (by omega)]; exact h3 s hs, fun s hs => by rw [e _ (by omega) (by omega), eq _ (by omega)]; exact h4 s hs, by rw [e g (by omega) (by omega), eq 2 (by omega)]; exact h5, fun k hk => ?_, by rw [e g (by omega) (by omega), eq 3 (by omega)]; exact h7, by rw [e g (by omega) (by omega), eq 4 (by omega)]; exact h8⟩
  rw [e _ (by omega) (by omega), e _ (by omega) (by omega), e _ (by omega) (by omega), eq _ (by omega), eq _ (by omega), eq _ (by omega)]
  exact h6 k hk
end CJ1
section CJ2
variable {E : EnT} {S : ST} {I : IT} {L : LT} {B : Nat} {A : AT}
theorem CR.un (hR : CR E S B I A) {I' : IT} (hh : HsM I' (B + 83) (aq A) (0, (aun A).2)) (hf : Fh (B + 83) I' I) : CR E S B I' (un0 A) := hR.tu (fun x hx => hf x (by omega)) hh
theorem Fh.C {I' : IT} (h : Fh (B + 83) I' I) : FrC B I' I L L := fun x hx => ⟨h x (by omega), rfl⟩
theorem FrC.h {I0 I' : IT} {L0 : LT} (g : FrC B I I0 L L0) (h : Fh (B + 83) I' I) : FrC B I' I0 L L0 := fun x hx => ⟨(h x (by omega)).trans (g x hx).1, (g x hx).2⟩
theorem c_X11_box (h11 : Lay11 E S B) (hR : CR E S B I A) (hA : wfA A) {x : Int32} : Cc E kX11_box 2 [.ref B, .int x] S I L B (.int (spBox A x).1) (spBox A x).2 := by
  have hq := hA.q
  have hnb := hq.nb
  have hv := hR.1
  refine C_of (by decide) (Nat.le_of_ble_eq_true rfl) ?_
  refine V_iload_n (pc := 0) dX11_box_0 rfl ?_
  refine V_if_lt (pc := 1) (tgt := 10) dX11_box_1 (by decide) (fun c1 => ?_) (fun n1 => ?_)
  · skip
    have hb : bnd x 21 = false := by first | exact bnd_lo c1 | exact bnd_nle (n := 20) (by omega) n7
    rw [spBox, if_neg (by rw [hb]; decide)]
    refine V_aload_n (pc := 10) dX11_box_10 rfl ?_
    refine V_iconst (pc := 11) (v := (-1)) dX11_box_11 (by decide) ?_
    refine V_callVd (pc := 12) (ci := 11) (c_X11_refuse (r := 1) h11 (by decide) (by decide) (by decide)) dX11_box_12 mlX11_112 mkX11_refuse rfl rfl h11.o ⟨by decide, rfl⟩ ⟨Nat.le_of_ble_eq_true rfl, Nat.le_of_ble_eq_true rfl⟩ (Nat.le_of_ble_eq_true rfl) ⟨Nat.le_of_ble_eq_true rfl, Nat.le_of_ble_eq_true rfl⟩ ?_
    refine V_iret (pc := 15) dX11_box_15 rfl (by first | decide | omega) (by first | decide | omega) ?_
    exact ⟨rfl, rfl, hR.hrf, rfuC_Fr FrC.rf⟩
  · skip
    refine V_iload_n (pc := 4) dX11_box_4 rfl ?_
    refine V_bipush (pc := 5) (v := nI 20) dX11_box_5 (by decide) ?_
    refine V_icmp_le (pc := 7) (tgt := 16) dX11_box_7 (by decide) (fun c7 => ?_) (fun n7 => ?_)
    · skip
      have hb : bnd x 21 = true := bnd_le (n := 20) (by omega) n1 c7
      obtain ⟨j, hj, hx⟩ := bnd_ex (by omega) hb
      rw [spBox, if_pos hb]
      subst hx
      rw [cln_nI (by omega)]
      refine V_aload_n (pc := 16) dX11_box_16 rfl ?_
      refine V_getR (pc := 17) 11 0 dX11_box_17 flX11_91 (by decide) h11.o h11.R0 ?_
      refine V_getR (pc := 20) 10 0 dX11_box_20 flX11_116 (by decide) h11.O0.o h11.O0.R0 ?_
      refine V_astore_n (pc := 23) (ls' := [(0, _), (1, _), (2, _)]) dX11_box_23 (by decide) rfl ?_
      refine V_aload_n (pc := 24) dX11_box_24 rfl ?_
      refine V_getIE (pc := 25) 9 0 dX11_box_25 flX11_120 (by decide) h11.O0.O0.o (hv.1.1) ?_
      refine V_bipush (pc := 28) (v := nI 6) dX11_box_28 (by decide) ?_
      refine V_icmp_ltN (pc := 30) (tgt := 40) dX11_box_30 (by decide) (by omega) (by omega) (fun c30 => ?_) (fun n30 => ?_)
      · skip
        rw [if_neg (by omega)]
        refine V_aload_n (pc := 40) dX11_box_40 rfl ?_
        refine V_getR (pc := 41) 11 4 dX11_box_41 flX11_99 (by decide) h11.o h11.R4 ?_
        refine V_getR (pc := 44) 0 3 dX11_box_44 flX11_125 (by decide) h11.O4.o h11.O4.R3 ?_
        refine V_callV (pc := 47) (ci := 2) (c_X2_clear h11.O4.O3 hR.2.2.1) dX11_box_47 mlX11_129 mkX2_clear rfl rfl h11.O4.O3.o ⟨by decide, rfl⟩ ⟨Nat.le_of_ble_eq_true rfl, Nat.le_of_ble_eq_true rfl⟩ (Nat.le_of_ble_eq_true rfl) ⟨Nat.le_of_ble_eq_true rfl, Nat.le_of_ble_eq_true rfl⟩ (fun r S' I' L' hp => ?_)
        obtain ⟨rfl, rfl, rfl, hh, hf⟩ := hp
        have hR1 := hR.un hh hf
        have hv1 : VgM I' (B + 36) (aq A) := hR1.1
        have hF := FrC.rf (L := L) |>.h hf
        refine V_aload_n (pc := 50) dX11_box_50 rfl ?_
        refine V_getIE (pc := 51) 9 0 dX11_box_51 flX11_120 (by decide) h11.O0.O0.o (hv1.1.1) ?_
        refine V_istore_n (pc := 54) (ls' := [(0, _), (1, _), (2, _), (3, _)]) dX11_box_54 (by decide) rfl ?_
        refine V_aload_n (pc := 55) dX11_box_55 rfl ?_
        refine V_dup (pc := 56) dX11_box_56 rfl ?_
        refine V_getIE (pc := 57) 9 0 dX11_box_57 flX11_120 (by decide) h11.O0.O0.o (hv1.1.1) ?_
        refine V_iconst (pc := 60) (v := nI 1) dX11_box_60 (by decide) ?_
        refine V_iaddN (pc := 61) dX11_box_61 ?_
        refine V_putI (pc := 62) 9 0 dX11_box_62 flX11_120 (by decide) (by decide) (Or.inl rfl) rfl rfl h11.O0.O0.o ?_
        refine V_aload_n (pc := 65) dX11_box_65 rfl ?_
        refine V_getR (pc := 66) 9 3 dX11_box_66 flX11_134 (by decide) h11.O0.O0.o h11.O0.O0.R3 ?_
        refine V_iload_n (pc := 69) dX11_box_69 rfl ?_
        refine V_iload_n (pc := 70) dX11_box_70 rfl ?_
        refine V_iastore (pc := 71) dX11_box_71 h11.O0.O0.A3 (by first | decide | omega) (by omega) ?_
        refine V_aload_n (pc := 72) dX11_box_72 rfl ?_
        refine V_iload_n (pc := 73) dX11_box_73 rfl ?_
        refine V_callVd (pc := 74) (ci := 11) (c_X11_grant h11) dX11_box_74 mlX11_137 mkX11_grant rfl rfl h11.o ⟨by decide, rfl⟩ ⟨Nat.le_of_ble_eq_true rfl, Nat.le_of_ble_eq_true rfl⟩ (Nat.le_of_ble_eq_true rfl) ⟨Nat.le_of_ble_eq_true rfl, Nat.le_of_ble_eq_true rfl⟩ ?_
        refine V_iret (pc := 77) dX11_box_77 rfl (by first | decide | omega) (by first | decide | omega) ?_
        have hq1 := hv1.vl (hv1.1.ub (n := aq A 0 + 1) |>.u3 (b := aq A 0) (n := j) (by omega)) (fun a a1 a2 => by rw [up2_row (by omega), up2_row (by omega)]) (fun i hi => by rw [setq_n (by omega), setq_n (by omega)])
        have e : setq (setq (aq A) 0 (aq A 0 + 1)) (62 + aq A 0) j = setq (setq (aq A) (62 + aq A 0) j) 0 (aq A 0 + 1) := by
          funext i; unfold setq; by_cases z : i = 0
          · subst z; rw [if_neg (by omega), if_pos rfl, if_pos rfl]
          · rw [if_neg z, if_neg z]
        rw [e] at hq1
        exact ⟨rfl, rfl, (hR1.tq (fun x hx => by rw [up2_row (by omega), up2_row (by omega)]) hq1 ((setq_n (by omega)).trans (setq_n (by omega))) (Or.inr rfl)).hok, ((hF.up (by omega)).up (by omega)).up (by omega)⟩
      · skip
        refine V_aload_n (pc := 33) dX11_box_33 rfl ?_
        refine V_bipush (pc := 34) (v := (-5)) dX11_box_34 (by decide) ?_
        refine V_callVd (pc := 36) (ci := 11) (c_X11_refuse (r := 5) h11 (by decide) (by decide) (by decide)) dX11_box_36 mlX11_112 mkX11_refuse rfl rfl h11.o ⟨by decide, rfl⟩ ⟨Nat.le_of_ble_eq_true rfl, Nat.le_of_ble_eq_true rfl⟩ (Nat.le_of_ble_eq_true rfl) ⟨Nat.le_of_ble_eq_true rfl, Nat.le_of_ble_eq_true rfl⟩ ?_
        refine V_iret (pc := 39) dX11_box_39 rfl (by first | decide | omega) (by first | decide | omega) ?_
        rw [if_pos (by omega)]
        exact ⟨rfl, rfl, hR.hrf, rfuC_Fr FrC.rf⟩
    · skip
      have hb : bnd x 21 = false := by first | exact bnd_lo c1 | exact bnd_nle (n := 20) (by omega) n7
      rw [spBox, if_neg (by rw [hb]; decide)]
      refine V_aload_n (pc := 10) dX11_box_10 rfl ?_
      refine V_iconst (pc := 11) (v := (-1)) dX11_box_11 (by decide) ?_
      refine V_callVd (pc := 12) (ci := 11) (c_X11_refuse (r := 1) h11 (by decide) (by decide) (by decide)) dX11_box_12 mlX11_112 mkX11_refuse rfl rfl h11.o ⟨by decide, rfl⟩ ⟨Nat.le_of_ble_eq_true rfl, Nat.le_of_ble_eq_true rfl⟩ (Nat.le_of_ble_eq_true rfl) ⟨Nat.le_of_ble_eq_true rfl, Nat.le_of_ble_eq_true rfl⟩ ?_
      refine V_iret (pc := 15) dX11_box_15 rfl (by first | decide | omega) (by first | decide | omega) ?_
      exact ⟨rfl, rfl, hR.hrf, rfuC_Fr FrC.rf⟩
theorem c_X11_of (h11 : Lay11 E S B) (hR : CR E S B I A) (hA : wfA A) {x y : Int32} : Cc E kX11_of 5 [.ref B, .int x, .int y] S I L B (.int (spOf A x y)) A := by
  have hq := hA.q
  have hnb := hq.nb
  have hv := hR.1
  have hl := hR.2.1
  have hlw := hA.law
  refine C_of (by decide) (Nat.le_of_ble_eq_true rfl) ?_
  by_cases hx : bnd x (aq A 0) = true
  · obtain ⟨b, hb, rfl⟩ := bnd_ex (by omega) hx
    by_cases hy : bnd y 15 = true
    · obtain ⟨j, hj, rfl⟩ := bnd_ex (by omega) hy
      rw [spOf, if_pos ⟨hx, hy⟩, cln_nI (by omega), cln_nI (by omega)]
      have hc : j = 0 ∨ j = 1 ∨ j = 2 ∨ j = 3 ∨ j = 4 ∨ j = 5 ∨ j = 6 ∨ 7 ≤ j := by omega
      rcases hc with rfl | rfl | rfl | rfl | rfl | rfl | rfl | h7
      · skip
        refine V_aload_n (pc := 0) dX11_of_0 rfl ?_
        refine V_getR (pc := 1) 11 0 dX11_of_1 flX11_91 (by decide) h11.o h11.R0 ?_
        refine V_getR (pc := 4) 10 0 dX11_of_4 flX11_116 (by decide) h11.O0.o h11.O0.R0 ?_
        refine V_astore_n (pc := 7) (ls' := [(0, _), (1, _), (2, _), (3, _)]) dX11_of_7 (by decide) rfl ?_
        refine V_aload_n (pc := 8) dX11_of_8 rfl ?_
        refine V_iload_n (pc := 9) dX11_of_9 rfl ?_
        refine V_callVd (pc := 10) (ci := 9) (c_X9_hasBox h11.O0.O0 hv.1 hq) dX11_of_10 mlX11_140 mkX9_hasBox rfl rfl h11.O0.O0.o ⟨by decide, rfl⟩ ⟨Nat.le_of_ble_eq_true rfl, Nat.le_of_ble_eq_true rfl⟩ (Nat.le_of_ble_eq_true rfl) ⟨Nat.le_of_ble_eq_true rfl, Nat.le_of_ble_eq_true rfl⟩ ?_
        refine V_if_neB (pc := 13) (tgt := 18) dX11_of_13 (by decide) (fun c13 => ?_) (fun n13 => absurd n13 (by rw [hx]; decide))
        refine V_iload_n (pc := 18) dX11_of_18 rfl ?_
        refine V_tableIn (pc := 19) (off := 41) (tgt := 60) dX11_of_19 (by decide) (by decide) (by decide) (by decide) ?_
        refine V_aload_n (pc := 60) dX11_of_60 rfl ?_
        refine V_getR (pc := 61) 9 3 dX11_of_61 flX11_134 (by decide) h11.O0.O0.o h11.O0.O0.R3 ?_
        refine V_iload_n (pc := 64) dX11_of_64 rfl ?_
        refine V_ialoadE (pc := 65) dX11_of_65 h11.O0.O0.A3 (by first | decide | omega) (by omega) (hv.1.2.2.2.1 b (by omega)) ?_
        refine V_iret (pc := 66) dX11_of_66 rfl (by first | decide | omega) (by first | decide | omega) ?_
        exact ⟨rfl, rfl, hR, FrC.rf⟩
      · skip
        refine V_aload_n (pc := 0) dX11_of_0 rfl ?_
        refine V_getR (pc := 1) 11 0 dX11_of_1 flX11_91 (by decide) h11.o h11.R0 ?_
        refine V_getR (pc := 4) 10 0 dX11_of_4 flX11_116 (by decide) h11.O0.o h11.O0.R0 ?_
        refine V_astore_n (pc := 7) (ls' := [(0, _), (1, _), (2, _), (3, _)]) dX11_of_7 (by decide) rfl ?_
        refine V_aload_n (pc := 8) dX11_of_8 rfl ?_
        refine V_iload_n (pc := 9) dX11_of_9 rfl ?_
        refine V_callVd (pc := 10) (ci := 9) (c_X9_hasBox h11.O0.O0 hv.1 hq) dX11_of_10 mlX11_140 mkX9_hasBox rfl rfl h11.O0.O0.o ⟨by decide, rfl⟩ ⟨Nat.le_of_ble_eq_true rfl, Nat.le_of_ble_eq_true rfl⟩ (Nat.le_of_ble_eq_true rfl) ⟨Nat.le_of_ble_eq_true rfl, Nat.le_of_ble_eq_true rfl⟩ ?_
        refine V_if_neB (pc := 13) (tgt := 18) dX11_of_13 (by decide) (fun c13 => ?_) (fun n13 => absurd n13 (by rw [hx]; decide))
        refine V_iload_n (pc := 18) dX11_of_18 rfl ?_
        refine V_tableIn (pc := 19) (off := 48) (tgt := 67) dX11_of_19 (by decide) (by decide) (by decide) (by decide) ?_
        refine V_aload_n (pc := 67) dX11_of_67 rfl ?_
        refine V_iload_n (pc := 68) dX11_of_68 rfl ?_
        refine V_callVd (pc := 69) (ci := 9) (c_X9_notes h11.O0.O0 hv.1 hq (by omega)) dX11_of_69 mlX11_144 mkX9_notes rfl rfl h11.O0.O0.o ⟨by decide, rfl⟩ ⟨Nat.le_of_ble_eq_true rfl, Nat.le_of_ble_eq_true rfl⟩ (Nat.le_of_ble_eq_true rfl) ⟨Nat.le_of_ble_eq_true rfl, Nat.le_of_ble_eq_true rfl⟩ ?_
        refine V_iret (pc := 72) dX11_of_72 rfl (by first | decide | omega) (by first | decide | omega) ?_
        exact ⟨rfl, rfl, hR, FrC.rf⟩
      · skip
        refine V_aload_n (pc := 0) dX11_of_0 rfl ?_
        refine V_getR (pc := 1) 11 0 dX11_of_1 flX11_91 (by decide) h11.o h11.R0 ?_
        refine V_getR (pc := 4) 10 0 dX11_of_4 flX11_116 (by decide) h11.O0.o h11.O0.R0 ?_
        refine V_astore_n (pc := 7) (ls' := [(0, _), (1, _), (2, _), (3, _)]) dX11_of_7 (by decide) rfl ?_
        refine V_aload_n (pc := 8) dX11_of_8 rfl ?_
        refine V_iload_n (pc := 9) dX11_of_9 rfl ?_
        refine V_callVd (pc := 10) (ci := 9) (c_X9_hasBox h11.O0.O0 hv.1 hq) dX11_of_10 mlX11_140 mkX9_hasBox rfl rfl h11.O0.O0.o ⟨by decide, rfl⟩ ⟨Nat.le_of_ble_eq_true rfl, Nat.le_of_ble_eq_true rfl⟩ (Nat.le_of_ble_eq_true rfl) ⟨Nat.le_of_ble_eq_true rfl, Nat.le_of_ble_eq_true rfl⟩ ?_
        refine V_if_neB (pc := 13) (tgt := 18) dX11_of_13 (by decide) (fun c13 => ?_) (fun n13 => absurd n13 (by rw [hx]; decide))
        refine V_iload_n (pc := 18) dX11_of_18 rfl ?_
        refine V_tableIn (pc := 19) (off := 54) (tgt := 73) dX11_of_19 (by decide) (by decide) (by decide) (by decide) ?_
        refine V_aload_n (pc := 73) dX11_of_73 rfl ?_
        refine V_getR (pc := 74) 9 2 dX11_of_74 flX11_147 (by decide) h11.O0.O0.o h11.O0.O0.R2 ?_
        refine V_iload_n (pc := 77) dX11_of_77 rfl ?_
        refine V_ialoadE (pc := 78) dX11_of_78 h11.O0.O0.A2 (by first | decide | omega) (by omega) (hv.1.2.2.1 b (by omega)) ?_
        refine V_iret (pc := 79) dX11_of_79 rfl (by first | decide | omega) (by first | decide | omega) ?_
        exact ⟨rfl, rfl, hR, FrC.rf⟩
      · skip
        refine V_aload_n (pc := 0) dX11_of_0 rfl ?_
        refine V_getR (pc := 1) 11 0 dX11_of_1 flX11_91 (by decide) h11.o h11.R0 ?_
        refine V_getR (pc := 4) 10 0 dX11_of_4 flX11_116 (by decide) h11.O0.o h11.O0.R0 ?_
        refine V_astore_n (pc := 7) (ls' := [(0, _), (1, _), (2, _), (3, _)]) dX11_of_7 (by decide) rfl ?_
        refine V_aload_n (pc := 8) dX11_of_8 rfl ?_
        refine V_iload_n (pc := 9) dX11_of_9 rfl ?_
        refine V_callVd (pc := 10) (ci := 9) (c_X9_hasBox h11.O0.O0 hv.1 hq) dX11_of_10 mlX11_140 mkX9_hasBox rfl rfl h11.O0.O0.o ⟨by decide, rfl⟩ ⟨Nat.le_of_ble_eq_true rfl, Nat.le_of_ble_eq_true rfl⟩ (Nat.le_of_ble_eq_true rfl) ⟨Nat.le_of_ble_eq_true rfl, Nat.le_of_ble_eq_true rfl⟩ ?_
        refine V_if_neB (pc := 13) (tgt := 18) dX11_of_13 (by decide) (fun c13 => ?_) (fun n13 => absurd n13 (by rw [hx]; decide))
        refine V_iload_n (pc := 18) dX11_of_18 rfl ?_
        refine V_tableIn (pc := 19) (off := 61) (tgt := 80) dX11_of_19 (by decide) (by decide) (by decide) (by decide) ?_
        refine V_aload_n (pc := 80) dX11_of_80 rfl ?_
        refine V_getR (pc := 81) 9 4 dX11_of_81 flX11_150 (by decide) h11.O0.O0.o h11.O0.O0.R4 ?_
        refine V_iload_n (pc := 84) dX11_of_84 rfl ?_
        refine V_ialoadE (pc := 85) dX11_of_85 h11.O0.O0.A4 (by first | decide | omega) (by omega) (hv.1.2.2.2.2.1 b (by omega)) ?_
        refine V_iret (pc := 86) dX11_of_86 rfl (by first | decide | omega) (by first | decide | omega) ?_
        exact ⟨rfl, rfl, hR, FrC.rf⟩
      · skip
        refine V_aload_n (pc := 0) dX11_of_0 rfl ?_
        refine V_getR (pc := 1) 11 0 dX11_of_1 flX11_91 (by decide) h11.o h11.R0 ?_
        refine V_getR (pc := 4) 10 0 dX11_of_4 flX11_116 (by decide) h11.O0.o h11.O0.R0 ?_
        refine V_astore_n (pc := 7) (ls' := [(0, _), (1, _), (2, _), (3, _)]) dX11_of_7 (by decide) rfl ?_
        refine V_aload_n (pc := 8) dX11_of_8 rfl ?_
        refine V_iload_n (pc := 9) dX11_of_9 rfl ?_
        refine V_callVd (pc := 10) (ci := 9) (c_X9_hasBox h11.O0.O0 hv.1 hq) dX11_of_10 mlX11_140 mkX9_hasBox rfl rfl h11.O0.O0.o ⟨by decide, rfl⟩ ⟨Nat.le_of_ble_eq_true rfl, Nat.le_of_ble_eq_true rfl⟩ (Nat.le_of_ble_eq_true rfl) ⟨Nat.le_of_ble_eq_true rfl, Nat.le_of_ble_eq_true rfl⟩ ?_
        refine V_if_neB (pc := 13) (tgt := 18) dX11_of_13 (by decide) (fun c13 => ?_) (fun n13 => absurd n13 (by rw [hx]; decide))
        refine V_iload_n (pc := 18) dX11_of_18 rfl ?_
        refine V_tableIn (pc := 19) (off := 68) (tgt := 87) dX11_of_19 (by decide) (by decide) (by decide) (by decide) ?_
        refine V_aload_n (pc := 87) dX11_of_87 rfl ?_
        refine V_getR (pc := 88) 9 5 dX11_of_88 flX11_153 (by decide) h11.O0.O0.o h11.O0.O0.R5 ?_
        refine V_iload_n (pc := 91) dX11_of_91 rfl ?_
        refine V_ialoadE (pc := 92) dX11_of_92 h11.O0.O0.A5 (by first | decide | omega) (by omega) (hv.1.2.2.2.2.2.1 b (by omega)) ?_
        refine V_iret (pc := 93) dX11_of_93 rfl (by first | decide | omega) (by first | decide | omega) ?_
        exact ⟨rfl, rfl, hR, FrC.rf⟩
      · skip
        refine V_aload_n (pc := 0) dX11_of_0 rfl ?_
        refine V_getR (pc := 1) 11 0 dX11_of_1 flX11_91 (by decide) h11.o h11.R0 ?_
        refine V_getR (pc := 4) 10 0 dX11_of_4 flX11_116 (by decide) h11.O0.o h11.O0.R0 ?_
        refine V_astore_n (pc := 7) (ls' := [(0, _), (1, _), (2, _), (3, _)]) dX11_of_7 (by decide) rfl ?_
        refine V_aload_n (pc := 8) dX11_of_8 rfl ?_
        refine V_iload_n (pc := 9) dX11_of_9 rfl ?_
        refine V_callVd (pc := 10) (ci := 9) (c_X9_hasBox h11.O0.O0 hv.1 hq) dX11_of_10 mlX11_140 mkX9_hasBox rfl rfl h11.O0.O0.o ⟨by decide, rfl⟩ ⟨Nat.le_of_ble_eq_true rfl, Nat.le_of_ble_eq_true rfl⟩ (Nat.le_of_ble_eq_true rfl) ⟨Nat.le_of_ble_eq_true rfl, Nat.le_of_ble_eq_true rfl⟩ ?_
        refine V_if_neB (pc := 13) (tgt := 18) dX11_of_13 (by decide) (fun c13 => ?_) (fun n13 => absurd n13 (by rw [hx]; decide))
        refine V_iload_n (pc := 18) dX11_of_18 rfl ?_
        refine V_tableIn (pc := 19) (off := 75) (tgt := 94) dX11_of_19 (by decide) (by decide) (by decide) (by decide) ?_
        refine V_aload_n (pc := 94) dX11_of_94 rfl ?_
        refine V_getR (pc := 95) 11 3 dX11_of_95 flX11_95 (by decide) h11.o h11.R3 ?_
        refine V_aload_n (pc := 98) dX11_of_98 rfl ?_
        refine V_getR (pc := 99) 11 0 dX11_of_99 flX11_91 (by decide) h11.o h11.R0 ?_
        refine V_callV (pc := 102) (ci := 10) (c_X10_lawInForce h11.O0 hv hq hl) dX11_of_102 mlX11_156 mkX10_lawInForce rfl rfl h11.O0.o ⟨by decide, rfl⟩ ⟨Nat.le_of_ble_eq_true rfl, Nat.le_of_ble_eq_true rfl⟩ (Nat.le_of_ble_eq_true rfl) ⟨Nat.le_of_ble_eq_true rfl, Nat.le_of_ble_eq_true rfl⟩ (fun r S' I' L' hp => ?_)
        obtain ⟨⟨a, rfl, hT, hta⟩, rfl, rfl, rfl⟩ := hp
        unfold txa at hta
        refine V_aload_n (pc := 105) dX11_of_105 rfl ?_
        refine V_iload_n (pc := 106) dX11_of_106 rfl ?_
        refine V_callV (pc := 107) (ci := 3) (c_X3_lasting h11.O3 h11.O0.O0 hv.1 hq (fun z z1 z2 => by omega) hT hlw.1 ⟨fun z z1 z2 => by omega, by omega⟩ (by omega)) dX11_of_107 mlX11_160 mkX3_lasting rfl rfl h11.O3.o ⟨by decide, rfl⟩ ⟨Nat.le_of_ble_eq_true rfl, Nat.le_of_ble_eq_true rfl⟩ (Nat.le_of_ble_eq_true rfl) ⟨Nat.le_of_ble_eq_true rfl, Nat.le_of_ble_eq_true rfl⟩ (fun r S' I' L' hp => ?_)
        obtain ⟨rfl, rfl, rfl, hf⟩ := hp
        refine V_iret (pc := 110) dX11_of_110 rfl (by first | decide | omega) (by first | decide | omega) ?_
        exact ⟨rfl, rfl, hR.dd (DdC.ofj hf), (DdC.ofj hf).Fr⟩
      · skip
        refine V_aload_n (pc := 0) dX11_of_0 rfl ?_
        refine V_getR (pc := 1) 11 0 dX11_of_1 flX11_91 (by decide) h11.o h11.R0 ?_
        refine V_getR (pc := 4) 10 0 dX11_of_4 flX11_116 (by decide) h11.O0.o h11.O0.R0 ?_
        refine V_astore_n (pc := 7) (ls' := [(0, _), (1, _), (2, _), (3, _)]) dX11_of_7 (by decide) rfl ?_
        refine V_aload_n (pc := 8) dX11_of_8 rfl ?_
        refine V_iload_n (pc := 9) dX11_of_9 rfl ?_
        refine V_callVd (pc := 10) (ci := 9) (c_X9_hasBox h11.O0.O0 hv.1 hq) dX11_of_10 mlX11_140 mkX9_hasBox rfl rfl h11.O0.O0.o ⟨by decide, rfl⟩ ⟨Nat.le_of_ble_eq_true rfl, Nat.le_of_ble_eq_true rfl⟩ (Nat.le_of_ble_eq_true rfl) ⟨Nat.le_of_ble_eq_true rfl, Nat.le_of_ble_eq_true rfl⟩ ?_
        refine V_if_neB (pc := 13) (tgt := 18) dX11_of_13 (by decide) (fun c13 => ?_) (fun n13 => absurd n13 (by rw [hx]; decide))
        refine V_iload_n (pc := 18) dX11_of_18 rfl ?_
        refine V_tableIn (pc := 19) (off := 92) (tgt := 111) dX11_of_19 (by decide) (by decide) (by decide) (by decide) ?_
        refine V_aload_n (pc := 111) dX11_of_111 rfl ?_
        refine V_getR (pc := 112) 11 3 dX11_of_112 flX11_95 (by decide) h11.o h11.R3 ?_
        refine V_aload_n (pc := 115) dX11_of_115 rfl ?_
        refine V_getR (pc := 116) 11 0 dX11_of_116 flX11_91 (by decide) h11.o h11.R0 ?_
        refine V_callV (pc := 119) (ci := 10) (c_X10_lawInForce h11.O0 hv hq hl) dX11_of_119 mlX11_156 mkX10_lawInForce rfl rfl h11.O0.o ⟨by decide, rfl⟩ ⟨Nat.le_of_ble_eq_true rfl, Nat.le_of_ble_eq_true rfl⟩ (Nat.le_of_ble_eq_true rfl) ⟨Nat.le_of_ble_eq_true rfl, Nat.le_of_ble_eq_true rfl⟩ (fun r S' I' L' hp => ?_)
        obtain ⟨⟨a, rfl, hT, hta⟩, rfl, rfl, rfl⟩ := hp
        unfold txa at hta
        refine V_aload_n (pc := 122) dX11_of_122 rfl ?_
        refine V_iload_n (pc := 123) dX11_of_123 rfl ?_
        refine V_callV (pc := 124) (ci := 3) (c_X3_losing h11.O3 h11.O0.O0 hv.1 hq (fun z z1 z2 => by omega) hT hlw.1 ⟨fun z z1 z2 => by omega, by omega⟩ (by omega)) dX11_of_124 mlX11_163 mkX3_losing rfl rfl h11.O3.o ⟨by decide, rfl⟩ ⟨Nat.le_of_ble_eq_true rfl, Nat.le_of_ble_eq_true rfl⟩ (Nat.le_of_ble_eq_true rfl) ⟨Nat.le_of_ble_eq_true rfl, Nat.le_of_ble_eq_true rfl⟩ (fun r S' I' L' hp => ?_)
        obtain ⟨rfl, rfl, rfl, hf⟩ := hp
        refine V_iret (pc := 127) dX11_of_127 rfl (by first | decide | omega) (by first | decide | omega) ?_
        exact ⟨rfl, rfl, hR.dd (DdC.ofj hf), (DdC.ofj hf).Fr⟩
      · rw [if_neg (by omega), if_neg (by omega), if_neg (by omega), if_neg (by omega), if_neg (by omega), if_neg (by omega), if_neg (by omega)]
        have h8 : bnd (nI (j - 7)) 8 = true := bnd_lt (by omega) (by omega)
        have ep : I (B + 36 + 1 + 1) (b * 8 + j - 7) = nI (aq A (8 + 8 * b + (j - 7))) := by rw [hv.1.2.1 _ (by omega)]; congr 2; omega
        refine V_aload_n (pc := 0) dX11_of_0 rfl ?_
        refine V_getR (pc := 1) 11 0 dX11_of_1 flX11_91 (by decide) h11.o h11.R0 ?_
        refine V_getR (pc := 4) 10 0 dX11_of_4 flX11_116 (by decide) h11.O0.o h11.O0.R0 ?_
        refine V_astore_n (pc := 7) (ls' := [(0, _), (1, _), (2, _), (3, _)]) dX11_of_7 (by decide) rfl ?_
        refine V_aload_n (pc := 8) dX11_of_8 rfl ?_
        refine V_iload_n (pc := 9) dX11_of_9 rfl ?_
        refine V_callVd (pc := 10) (ci := 9) (c_X9_hasBox h11.O0.O0 hv.1 hq) dX11_of_10 mlX11_140 mkX9_hasBox rfl rfl h11.O0.O0.o ⟨by decide, rfl⟩ ⟨Nat.le_of_ble_eq_true rfl, Nat.le_of_ble_eq_true rfl⟩ (Nat.le_of_ble_eq_true rfl) ⟨Nat.le_of_ble_eq_true rfl, Nat.le_of_ble_eq_true rfl⟩ ?_
        refine V_if_neB (pc := 13) (tgt := 18) dX11_of_13 (by decide) (fun c13 => ?_) (fun n13 => absurd n13 (by rw [hx]; decide))
        refine V_iload_n (pc := 18) dX11_of_18 rfl ?_
        refine V_tableOut (pc := 19) (tgt := 128) dX11_of_19 (out_nI (by omega) (show 6 < j by omega)) (by decide) ?_
        refine V_iload_n (pc := 128) dX11_of_128 rfl ?_
        refine V_bipush (pc := 129) (v := nI 7) dX11_of_129 (by decide) ?_
        refine V_icmp_ltN (pc := 131) (tgt := 161) dX11_of_131 (by decide) (by omega) (by omega) (fun c131 => absurd c131 (by omega)) (fun n131 => ?_)
        refine V_iload_n (pc := 134) dX11_of_134 rfl ?_
        refine V_bipush (pc := 135) (v := nI 7) dX11_of_135 (by decide) ?_
        refine V_isubN (pc := 137) dX11_of_137 (by omega) ?_
        refine V_callSd (pc := 138) (c_X11_isBar) dX11_of_138 mlX11_166 mkX11_isBar rfl rfl ⟨Nat.le_of_ble_eq_true rfl, Nat.le_of_ble_eq_true rfl⟩ (Nat.le_of_ble_eq_true rfl) ⟨Nat.le_of_ble_eq_true rfl, Nat.le_of_ble_eq_true rfl⟩ ?_
        refine V_if_eqB (pc := 141) (tgt := 161) dX11_of_141 (by decide) (fun c141 => absurd c141 (by rw [h8]; decide)) (fun n141 => ?_)
        refine V_aload_n (pc := 144) dX11_of_144 rfl ?_
        refine V_getR (pc := 145) 9 1 dX11_of_145 flX11_169 (by decide) h11.O0.O0.o h11.O0.O0.R1 ?_
        refine V_iload_n (pc := 148) dX11_of_148 rfl ?_
        refine V_bipush (pc := 149) (v := nI 8) dX11_of_149 (by decide) ?_
        refine V_imulN (pc := 151) dX11_of_151 ?_
        refine V_iload_n (pc := 152) dX11_of_152 rfl ?_
        refine V_iaddN (pc := 153) dX11_of_153 ?_
        refine V_bipush (pc := 154) (v := nI 7) dX11_of_154 (by decide) ?_
        refine V_isubN (pc := 156) dX11_of_156 (by omega) ?_
        refine V_ialoadE (pc := 157) dX11_of_157 h11.O0.O0.A1 (by first | decide | omega) (by omega) (ep) ?_
        refine V_goto (pc := 158) (tgt := 162) dX11_of_158 (by decide) ?_
        refine V_iret (pc := 162) dX11_of_162 rfl (by first | decide | omega) (by first | decide | omega) ?_
        exact ⟨rfl, rfl, hR, FrC.rf⟩
    · rw [spOf, if_neg (fun z => hy z.2)]
      refine V_aload_n (pc := 0) dX11_of_0 rfl ?_
      refine V_getR (pc := 1) 11 0 dX11_of_1 flX11_91 (by decide) h11.o h11.R0 ?_
      refine V_getR (pc := 4) 10 0 dX11_of_4 flX11_116 (by decide) h11.O0.o h11.O0.R0 ?_
      refine V_astore_n (pc := 7) (ls' := [(0, _), (1, _), (2, _), (3, _)]) dX11_of_7 (by decide) rfl ?_
      refine V_aload_n (pc := 8) dX11_of_8 rfl ?_
      refine V_iload_n (pc := 9) dX11_of_9 rfl ?_
      refine V_callVd (pc := 10) (ci := 9) (c_X9_hasBox h11.O0.O0 hv.1 hq) dX11_of_10 mlX11_140 mkX9_hasBox rfl rfl h11.O0.O0.o ⟨by decide, rfl⟩ ⟨Nat.le_of_ble_eq_true rfl, Nat.le_of_ble_eq_true rfl⟩ (Nat.le_of_ble_eq_true rfl) ⟨Nat.le_of_ble_eq_true rfl, Nat.le_of_ble_eq_true rfl⟩ ?_
      refine V_if_neB (pc := 13) (tgt := 18) dX11_of_13 (by decide) (fun c13 => ?_) (fun n13 => absurd n13 (by rw [hx]; decide))
      refine V_iload_n (pc := 18) dX11_of_18 rfl ?_
      refine V_tableOut (pc := 19) (tgt := 128) dX11_of_19 (out_of (m := 6) hy (by omega)) (by decide) ?_
      refine V_iload_n (pc := 128) dX11_of_128 rfl ?_
      refine V_bipush (pc := 129) (v := nI 7) dX11_of_129 (by decide) ?_
      refine V_icmp_lt (pc := 131) (tgt := 161) dX11_of_131 (by decide) (fun c131 => ?_) (fun n131 => ?_)
      · skip
        refine V_iconst (pc := 161) (v := (-1)) dX11_of_161 (by decide) ?_
        refine V_iret (pc := 162) dX11_of_162 rfl (by first | decide | omega) (by first | decide | omega) ?_
        exact ⟨rfl, rfl, hR, FrC.rf⟩
      · skip
        refine V_iload_n (pc := 134) dX11_of_134 rfl ?_
        refine V_bipush (pc := 135) (v := nI 7) dX11_of_135 (by decide) ?_
        refine V_isub (pc := 137) dX11_of_137 ?_
        refine V_callSd (pc := 138) (c_X11_isBar) dX11_of_138 mlX11_166 mkX11_isBar rfl rfl ⟨Nat.le_of_ble_eq_true rfl, Nat.le_of_ble_eq_true rfl⟩ (Nat.le_of_ble_eq_true rfl) ⟨Nat.le_of_ble_eq_true rfl, Nat.le_of_ble_eq_true rfl⟩ ?_
        refine V_if_eqB (pc := 141) (tgt := 161) dX11_of_141 (by decide) (fun c141 => ?_) (fun n141 => absurd n141 (by exact fun w => hy (b78 w)))
        refine V_iconst (pc := 161) (v := (-1)) dX11_of_161 (by decide) ?_
        refine V_iret (pc := 162) dX11_of_162 rfl (by first | decide | omega) (by first | decide | omega) ?_
        exact ⟨rfl, rfl, hR, FrC.rf⟩
  · rw [spOf, if_neg (fun z => hx z.1)]
    refine V_aload_n (pc := 0) dX11_of_0 rfl ?_
    refine V_getR (pc := 1) 11 0 dX11_of_1 flX11_91 (by decide) h11.o h11.R0 ?_
    refine V_getR (pc := 4) 10 0 dX11_of_4 flX11_116 (by decide) h11.O0.o h11.O0.R0 ?_
    refine V_astore_n (pc := 7) (ls' := [(0, _), (1, _), (2, _), (3, _)]) dX11_of_7 (by decide) rfl ?_
    refine V_aload_n (pc := 8) dX11_of_8 rfl ?_
    refine V_iload_n (pc := 9) dX11_of_9 rfl ?_
    refine V_callVd (pc := 10) (ci := 9) (c_X9_hasBox h11.O0.O0 hv.1 hq) dX11_of_10 mlX11_140 mkX9_hasBox rfl rfl h11.O0.O0.o ⟨by decide, rfl⟩ ⟨Nat.le_of_ble_eq_true rfl, Nat.le_of_ble_eq_true rfl⟩ (Nat.le_of_ble_eq_true rfl) ⟨Nat.le_of_ble_eq_true rfl, Nat.le_of_ble_eq_true rfl⟩ ?_
    refine V_if_neB (pc := 13) (tgt := 18) dX11_of_13 (by decide) (fun c13 => absurd c13 (by exact fun z => hx z)) (fun n13 => ?_)
    refine V_iconst (pc := 16) (v := (-1)) dX11_of_16 (by decide) ?_
    refine V_iret (pc := 17) dX11_of_17 rfl (by first | decide | omega) (by first | decide | omega) ?_
    exact ⟨rfl, rfl, hR, FrC.rf⟩
end CJ2
