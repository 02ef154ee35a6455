/-! THE CLASS: deeds -/
theorem psj_o {law : LawT} {q : Nat → Nat} {j i : Nat} (hj : j ≤ 6) (h : i < 62 ∨ 80 ≤ i) : psj law q j i = q i := psj_u (by omega)
theorem psj_sp {law : LawT} {q : Nat → Nat} {j b : Nat} (hj : j ≤ 6) (h : b < 6) : psj law q j (62 + b) = if b < j then q (62 + b) - lss law q b else q (62 + b) := by
  unfold psj
  by_cases z : b < j
  · rw [if_pos (by omega), if_pos z, Nat.add_sub_cancel_left]
  · rw [if_neg (by omega), if_neg (by omega), if_neg (by omega), if_neg z]
theorem psj_we {law : LawT} {q : Nat → Nat} {j b : Nat} (hj : j ≤ 6) (h : b < 6) : psj law q j (68 + b) = if b < j ∧ q (74 + b) = 1 then 0 else q (68 + b) := by
  unfold psj
  by_cases z : b < j
  · rw [if_neg (by omega), if_pos (by omega), show 68 + b + 6 = 74 + b by omega]; simp [z]
  · rw [if_neg (by omega), if_neg (by omega), if_neg (by omega), if_neg (by omega)]
theorem psj_le {law : LawT} {q : Nat → Nat} {j b : Nat} (hj : j ≤ 6) (h : b < 6) : psj law q j (74 + b) = if b < j then q (74 + b) - 1 else q (74 + b) := by
  unfold psj
  by_cases z : b < j
  · rw [if_neg (by omega), if_neg (by omega), if_pos (by omega), if_pos z]
  · rw [if_neg (by omega), if_neg (by omega), if_neg (by omega), if_neg z]
theorem wq.psjw {q : Nat → Nat} (h : wq q) {law : LawT} {j : Nat} (hj : j ≤ 6) : wq (psj law q j) := by
  have hnb := h.nb
  have hns := h.ns
  have hnl := h.nl
  have hnh := h.nh
  have hfo := h.fo
  have e : ∀ i, i < 62 ∨ 80 ≤ i → psj law q j i = q i := fun i h1 => psj_o hj h1
  exact ⟨by rw [e 0 (by omega)]; exact h.nb,
    by rw [e 1 (by omega)]; exact h.ns,
    by rw [e 2 (by omega)]; exact h.nh,
    by rw [e 3 (by omega)]; exact h.nl,
    by rw [e 4 (by omega), e 3 (by omega)]; exact h.fo,
    by rw [e 5 (by omega)]; exact h.ye,
    by rw [e 6 (by omega)]; exact h.da,
    by rw [e 7 (by omega)]; exact h.mo,
    fun c t h1 h2 => by rw [e _ (by omega)]; exact h.pi c t h1 h2,
    fun c h1 => by rw [e _ (by omega)]; exact h.br c h1,
    fun c h1 => by rw [psj_sp hj h1]; have := h.sp c h1; split <;> omega,
    fun c h1 => by rw [psj_we hj h1, e 1 (by omega)]; have := h.we c h1; split <;> omega,
    fun c h1 => by rw [psj_le hj h1]; have := h.le c h1; split <;> omega,
    fun c h1 => by rw [e _ (by omega)]; exact h.ea c h1,
    fun c h1 => by rw [e _ (by omega)]; exact h.wa c h1,
    fun c h1 => by rw [e _ (by omega), e (92 + 3 * c + 1) (by omega), e (92 + 3 * c + 2) (by omega)]; exact h.he c h1,
    fun c h1 => by
      rw [psj_le hj h1, psj_we hj h1]; have := h.wl c h1
      by_cases z : c < j
      · rw [if_pos z]
        by_cases y : q (74 + c) = 1
        · rw [if_pos ⟨z, y⟩]; omega
        · rw [if_neg (fun w => y w.2)]; omega
      · rw [if_neg z, if_neg (fun w => z w.1)]; exact this,
    fun c d h1 h2 h3 h4 => by
      rw [psj_we hj h1] at h4 ⊢; rw [psj_we hj h2]; have h5 := h.ww c d h1 h2 h3
      split at h4
      · omega
      · rename_i hz; rw [if_neg hz]; have h6 := h5 h4; split <;> omega,
    fun c h1 h2 => by
      rw [e 0 (by omega)] at h1; have hu := h.un c h1 h2; rw [e (56 + c) (by omega), psj_sp hj h2, psj_we hj h2, psj_le hj h2]; refine ⟨fun t ht => by rw [e _ (by omega)]; exact hu.1 t ht, hu.2.1, by have := hu.2.2.1; split <;> omega, by have := hu.2.2.2.1; split <;> omega, by have := hu.2.2.2.2; split <;> omega⟩⟩
theorem wdq_cg {q q' : Nat → Nat} {b : Nat} (h1 : q' (62 + b) = q (62 + b)) (h2 : ∀ j, j < 8 → q' (8 + 8 * b + j) = q (8 + 8 * b + j)) (h3 : q' (56 + b) = q (56 + b)) (h5 : q' 5 = q 5) (h7 : q' 7 = q 7) : wdq q' b 0 = wdq q b 0 := by
  have hn : nts q' b = nts q b := sm_cong fun j hj => by unfold nt; rw [h2 j hj, h3]
  funext i
  unfold wdq
  rw [h1, h3, h5, h7, hn]
  rfl
theorem lss_psj {law : LawT} {q : Nat → Nat} {j : Nat} (hj : j < 6) : lss law (psj law q j) j = lss law q j := by
  unfold lss
  rw [wdq_cg (psj_u (by omega)) (fun i hi => psj_o (by omega) (by omega)) (psj_o (by omega) (by omega)) (psj_o (by omega) (by omega)) (psj_o (by omega) (by omega))]
theorem max_sub : ∀ a, a < 21 → ∀ b, b < 10 → maxI (nI 0) (nI a - nI b) = nI (a - b) := by decide +kernel
theorem andn_bit : ∀ a, a < 256 → ∀ t, t < 8 → andn a (1 * 2 ^ t) = if a / 2 ^ t % 2 = 1 then a - 2 ^ t else a := by decide +kernel
theorem or_bit : ∀ a, a < 256 → ∀ t, t < 8 → ¬ a / 2 ^ t % 2 = 1 → a ||| 1 * 2 ^ t = a + 2 ^ t := by decide +kernel
theorem p2_8 : ∀ t, t < 8 → 1 * 2 ^ t < 256 := by decide
section CL
variable {E : EnT} {S : ST} {I : IT} {L : LT} {v a d w j t : Nat} {law : LawT} {q : Nat → Nat}
theorem c_X0_liveYear (h0 : Lay0 E S d w j t) (h9 : Lay9 E S v) (hv : VlM I v q) (hq : wq q) (hT : TxM E S I a law) (hs : LawS law) (hy : q 5 < 999) (hap : (∀ x, v ≤ x → x ≤ v + 6 → x ≠ j + 1 ∧ x ≠ t + 1) ∧ (∀ x, a ≤ x → x ≤ a + 5 → x ≠ j + 1 ∧ x ≠ t + 1 ∧ (x < v ∨ v + 6 < x)) ∧ j + 1 ≠ t + 1) : C E kX0_liveYear 4 0 0 [.ref d, .ref v, .ref a] S I L (fun r S' I' L' => r = some (.int (nI (pse q))) ∧ S = S' ∧ L = L' ∧ VlM I' v (psq law q) ∧ ∀ x, (x < v ∨ v + 6 < x) → x ≠ j + 1 → x ≠ t + 1 → I' x = I x) := by
  have hnb := hq.nb
  obtain ⟨ap1, ap2, ap3⟩ := hap
  have h3 := h0.O1
  refine C_of (by decide) (Nat.le_of_ble_eq_true rfl) ?_
  have key : ∀ n, n ≤ q 0 → ∀ J, (∀ x, (x < v ∨ v + 6 < x) → x ≠ j + 1 → x ≠ t + 1 → J x = I x) → VlM J v (psj law q n) → V E kX0_liveYear (rmOf 4 0 0) (QM E (fun r S' I' L' => r = some (.int (nI (pse q))) ∧ S = S' ∧ L = L' ∧ VlM I' v (psq law q) ∧ ∀ x, (x < v ∨ v + 6 < x) → x ≠ j + 1 → x ≠ t + 1 → I' x = I x) 0 0) 0 0 S J L 5 [(0, .ref d), (1, .ref v), (2, .ref a), (3, .int (nI (sm (fun b => if q (74 + b) = 1 then 1 else 0) n))), (4, .int (nI n))] [] := by
    refine loopUp (n := q 0) (P := fun n => ∀ J, (∀ x, (x < v ∨ v + 6 < x) → x ≠ j + 1 → x ≠ t + 1 → J x = I x) → VlM J v (psj law q n) → V E kX0_liveYear (rmOf 4 0 0) (QM E (fun r S' I' L' => r = some (.int (nI (pse q))) ∧ S = S' ∧ L = L' ∧ VlM I' v (psq law q) ∧ ∀ x, (x < v ∨ v + 6 < x) → x ≠ j + 1 → x ≠ t + 1 → I' x = I x) 0 0) 0 0 S J L 5 [(0, .ref d), (1, .ref v), (2, .ref a), (3, .int (nI (sm (fun b => if q (74 + b) = 1 then 1 else 0) n))), (4, .int (nI n))] []) ?_ ?_
    · intro J hF hJ
      have e0 : psj law q (q 0) 0 = q 0 := psj_o (by omega) (by omega)
      have e5 : psj law q (q 0) (5 + 0) = q 5 := psj_o (by omega) (by omega)
      refine V_iload (pc := 5) dX0_liveYear_5 rfl ?_
      refine V_aload_n (pc := 7) dX0_liveYear_7 rfl ?_
      refine V_getIE (pc := 8) 9 0 dX0_liveYear_8 flX0_117 (by decide) h9.o (hJ.1.trans (by rw [e0])) ?_
      refine V_icmp_geN (pc := 11) (tgt := 101) dX0_liveYear_11 (by decide) (by omega) (by omega) (fun c11 => ?_) (fun n11 => absurd n11 (by omega))
      refine V_aload_n (pc := 101) dX0_liveYear_101 rfl ?_
      refine V_getR (pc := 102) 9 6 dX0_liveYear_102 flX0_110 (by decide) h9.o h9.R6 ?_
      refine V_iconst (pc := 105) (v := nI 0) dX0_liveYear_105 (by decide) ?_
      refine V_dup2 (pc := 106) dX0_liveYear_106 rfl rfl ?_
      refine V_ialoadE (pc := 107) dX0_liveYear_107 h9.A6 (by first | decide | omega) (by omega) ((hJ.2.2.2.2.2.2 0 (by omega)).trans (by rw [e5])) ?_
      refine V_iconst (pc := 108) (v := nI 1) dX0_liveYear_108 (by decide) ?_
      refine V_iaddN (pc := 109) dX0_liveYear_109 ?_
      refine V_iastore (pc := 110) dX0_liveYear_110 h9.A6 (by first | decide | omega) (by omega) ?_
      refine V_iload_n (pc := 111) dX0_liveYear_111 rfl ?_
      refine V_iret (pc := 112) dX0_liveYear_112 rfl (by first | decide | omega) (by first | decide | omega) ?_
      refine ⟨rfl, rfl, rfl, ?_, fun x a1 a2 a3 => by rw [up2_row (by omega)]; exact hF x a1 a2 a3⟩
      have := hJ.u6 (b := 0) (n := q 5 + 1) (by omega)
      rw [← psj_end hq]
      exact this
    · intro n hn ih J hF hJ
      have e0 : psj law q n 0 = q 0 := psj_o (by omega) (by omega)
      have e3 : psj law q n (62 + n) = q (62 + n) := psj_u (by omega)
      have e4 : psj law q n (68 + n) = q (68 + n) := psj_u (by omega)
      have e5 : psj law q n (74 + n) = q (74 + n) := psj_u (by omega)
      have hsp := hq.sp n (by omega)
      have hwe := hq.we n (by omega)
      have hle := hq.le n (by omega)
      have hwl := hq.wl n (by omega)
      have hns := hq.ns
      have hls := lss_le law q n
      have hT2 : TxM E S J a law := hT.cg fun x h1 h2 => hF x (ap2 x h1 h2).2.2 (ap2 x h1 h2).1 (ap2 x h1 h2).2.1
      by_cases hw0 : q (68 + n) = 0
      · have hl0 := hwl.mp hw0
        rw [sm_s _ n, if_neg (by omega), Nat.add_zero] at ih
        refine V_iload (pc := 5) dX0_liveYear_5 rfl ?_
        refine V_aload_n (pc := 7) dX0_liveYear_7 rfl ?_
        refine V_getIE (pc := 8) 9 0 dX0_liveYear_8 flX0_117 (by decide) h9.o (hJ.1.trans (by rw [e0])) ?_
        refine V_icmp_geN (pc := 11) (tgt := 101) dX0_liveYear_11 (by decide) (by omega) (by omega) (fun c11 => absurd c11 (by omega)) (fun n11 => ?_)
        refine V_aload_n (pc := 14) dX0_liveYear_14 rfl ?_
        refine V_getR (pc := 15) 9 3 dX0_liveYear_15 flX0_120 (by decide) h9.o h9.R3 ?_
        refine V_iload (pc := 18) dX0_liveYear_18 rfl ?_
        refine V_iconst (pc := 20) (v := nI 0) dX0_liveYear_20 (by decide) ?_
        refine V_aload_n (pc := 21) dX0_liveYear_21 rfl ?_
        refine V_getR (pc := 22) 9 3 dX0_liveYear_22 flX0_120 (by decide) h9.o h9.R3 ?_
        refine V_iload (pc := 25) dX0_liveYear_25 rfl ?_
        refine V_ialoadE (pc := 27) dX0_liveYear_27 h9.A3 (by first | decide | omega) (by omega) ((hJ.2.2.2.1 n (by omega)).trans (by rw [e3])) ?_
        refine V_aload_n (pc := 28) dX0_liveYear_28 rfl ?_
        refine V_getR (pc := 29) 0 1 dX0_liveYear_29 flX0_45 (by decide) h0.o h0.R1 ?_
        refine V_aload_n (pc := 32) dX0_liveYear_32 rfl ?_
        refine V_aload_n (pc := 33) dX0_liveYear_33 rfl ?_
        refine V_iload (pc := 34) dX0_liveYear_34 rfl ?_
        refine V_callV (pc := 36) (ci := 3) (c_X3_losing h3 h9 hJ (hq.psjw (by omega)) (fun x h1 h2 => (ap1 x h1 h2).1) hT2 hs ⟨fun x h1 h2 => ⟨(ap2 x h1 h2).2.1, (ap2 x h1 h2).1⟩, ap3⟩ (by omega)) dX0_liveYear_36 mlX0_123 mkX3_losing rfl rfl h0.O1.o ⟨by decide, rfl⟩ ⟨Nat.le_of_ble_eq_true rfl, Nat.le_of_ble_eq_true rfl⟩ (Nat.le_of_ble_eq_true rfl) ⟨Nat.le_of_ble_eq_true rfl, Nat.le_of_ble_eq_true rfl⟩ (fun r S' I' L' hp => ?_)
        obtain ⟨rfl, rfl, rfl, hf⟩ := hp
        have hJ1 : VlM I' v (psj law q n) := hJ.cg fun x h1 h2 => hf x (ap1 x h1 h2).1 (ap1 x h1 h2).2
        rw [lss_psj (by omega)]
        refine V_isub (pc := 39) dX0_liveYear_39 ?_
        refine V_mmax (pc := 40) dX0_liveYear_40 mlX0_126 (Nat.le_of_ble_eq_true rfl) (Nat.le_of_ble_eq_true rfl) ⟨Nat.le_of_ble_eq_true rfl, Nat.le_of_ble_eq_true rfl⟩ ?_
        rw [max_sub _ (by omega) _ (by omega)]
        refine V_iastore (pc := 43) dX0_liveYear_43 h9.A3 (by first | decide | omega) (by omega) ?_
        refine V_aload_n (pc := 44) dX0_liveYear_44 rfl ?_
        refine V_getR (pc := 45) 9 4 dX0_liveYear_45 flX0_87 (by decide) h9.o h9.R4 ?_
        refine V_iload (pc := 48) dX0_liveYear_48 rfl ?_
        refine V_ialoadE (pc := 50) dX0_liveYear_50 h9.A4 (by first | decide | omega) (by omega) ((up2_ne (by omega)).trans ((hJ1.2.2.2.2.1 n (by omega)).trans (by rw [e4]))) ?_
        refine V_iconst (pc := 51) (v := (-1)) dX0_liveYear_51 (by decide) ?_
        refine V_icmp_eq (pc := 52) (tgt := 95) dX0_liveYear_52 (by decide) (fun c52 => ?_) (fun n52 => absurd n52 (by exact fun z => z ((pred1_none (by omega)).mpr hw0)))
        refine V_iinc1 (pc := 95) (ls' := [(0, _), (1, _), (2, _), (3, _), (4, _)]) dX0_liveYear_95 rfl (by decide) rfl ?_
        refine V_goto (pc := 98) (tgt := 5) dX0_liveYear_98 (by decide) ?_
        refine ih _ (fun x a1 a2 a3 => by rw [up2_row (by omega), hf x a2 a3]; exact hF x a1 a2 a3) ?_
        rw [psj_s0 (by omega) hw0 hl0]
        exact hJ1.u3 (by omega)
      · have hl0 : q (74 + n) ≠ 0 := fun z => hw0 (hwl.mpr z)
        refine V_iload (pc := 5) dX0_liveYear_5 rfl ?_
        refine V_aload_n (pc := 7) dX0_liveYear_7 rfl ?_
        refine V_getIE (pc := 8) 9 0 dX0_liveYear_8 flX0_117 (by decide) h9.o (hJ.1.trans (by rw [e0])) ?_
        refine V_icmp_geN (pc := 11) (tgt := 101) dX0_liveYear_11 (by decide) (by omega) (by omega) (fun c11 => absurd c11 (by omega)) (fun n11 => ?_)
        refine V_aload_n (pc := 14) dX0_liveYear_14 rfl ?_
        refine V_getR (pc := 15) 9 3 dX0_liveYear_15 flX0_120 (by decide) h9.o h9.R3 ?_
        refine V_iload (pc := 18) dX0_liveYear_18 rfl ?_
        refine V_iconst (pc := 20) (v := nI 0) dX0_liveYear_20 (by decide) ?_
        refine V_aload_n (pc := 21) dX0_liveYear_21 rfl ?_
        refine V_getR (pc := 22) 9 3 dX0_liveYear_22 flX0_120 (by decide) h9.o h9.R3 ?_
        refine V_iload (pc := 25) dX0_liveYear_25 rfl ?_
        refine V_ialoadE (pc := 27) dX0_liveYear_27 h9.A3 (by first | decide | omega) (by omega) ((hJ.2.2.2.1 n (by omega)).trans (by rw [e3])) ?_
        refine V_aload_n (pc := 28) dX0_liveYear_28 rfl ?_
        refine V_getR (pc := 29) 0 1 dX0_liveYear_29 flX0_45 (by decide) h0.o h0.R1 ?_
        refine V_aload_n (pc := 32) dX0_liveYear_32 rfl ?_
        refine V_aload_n (pc := 33) dX0_liveYear_33 rfl ?_
        refine V_iload (pc := 34) dX0_liveYear_34 rfl ?_
        refine V_callV (pc := 36) (ci := 3) (c_X3_losing h3 h9 hJ (hq.psjw (by omega)) (fun x h1 h2 => (ap1 x h1 h2).1) hT2 hs ⟨fun x h1 h2 => ⟨(ap2 x h1 h2).2.1, (ap2 x h1 h2).1⟩, ap3⟩ (by omega)) dX0_liveYear_36 mlX0_123 mkX3_losing rfl rfl h0.O1.o ⟨by decide, rfl⟩ ⟨Nat.le_of_ble_eq_true rfl, Nat.le_of_ble_eq_true rfl⟩ (Nat.le_of_ble_eq_true rfl) ⟨Nat.le_of_ble_eq_true rfl, Nat.le_of_ble_eq_true rfl⟩ (fun r S' I' L' hp => ?_)
        obtain ⟨rfl, rfl, rfl, hf⟩ := hp
        have hJ1 : VlM I' v (psj law q n) := hJ.cg fun x h1 h2 => hf x (ap1 x h1 h2).1 (ap1 x h1 h2).2
        rw [lss_psj (by omega)]
        refine V_isub (pc := 39) dX0_liveYear_39 ?_
        refine V_mmax (pc := 40) dX0_liveYear_40 mlX0_126 (Nat.le_of_ble_eq_true rfl) (Nat.le_of_ble_eq_true rfl) ⟨Nat.le_of_ble_eq_true rfl, Nat.le_of_ble_eq_true rfl⟩ ?_
        rw [max_sub _ (by omega) _ (by omega)]
        refine V_iastore (pc := 43) dX0_liveYear_43 h9.A3 (by first | decide | omega) (by omega) ?_
        refine V_aload_n (pc := 44) dX0_liveYear_44 rfl ?_
        refine V_getR (pc := 45) 9 4 dX0_liveYear_45 flX0_87 (by decide) h9.o h9.R4 ?_
        refine V_iload (pc := 48) dX0_liveYear_48 rfl ?_
        refine V_ialoadE (pc := 50) dX0_liveYear_50 h9.A4 (by first | decide | omega) (by omega) ((up2_ne (by omega)).trans ((hJ1.2.2.2.2.1 n (by omega)).trans (by rw [e4]))) ?_
        refine V_iconst (pc := 51) (v := (-1)) dX0_liveYear_51 (by decide) ?_
        refine V_icmp_eq (pc := 52) (tgt := 95) dX0_liveYear_52 (by decide) (fun c52 => absurd c52 (by exact fun z => hw0 ((pred1_none (by omega)).mp z))) (fun n52 => ?_)
        refine V_aload_n (pc := 55) dX0_liveYear_55 rfl ?_
        refine V_getR (pc := 56) 9 5 dX0_liveYear_56 flX0_107 (by decide) h9.o h9.R5 ?_
        refine V_iload (pc := 59) dX0_liveYear_59 rfl ?_
        refine V_dup2 (pc := 61) dX0_liveYear_61 rfl rfl ?_
        refine V_ialoadE (pc := 62) dX0_liveYear_62 h9.A5 (by first | decide | omega) (by omega) ((up2_ne (by omega)).trans ((hJ1.2.2.2.2.2.1 n (by omega)).trans (by rw [e5]))) ?_
        refine V_iconst (pc := 63) (v := nI 1) dX0_liveYear_63 (by decide) ?_
        refine V_isubN (pc := 64) dX0_liveYear_64 (by omega) ?_
        refine V_iastore (pc := 65) dX0_liveYear_65 h9.A5 (by first | decide | omega) (by omega) ?_
        refine V_aload_n (pc := 66) dX0_liveYear_66 rfl ?_
        refine V_getR (pc := 67) 9 5 dX0_liveYear_67 flX0_107 (by decide) h9.o h9.R5 ?_
        refine V_iload (pc := 70) dX0_liveYear_70 rfl ?_
        refine V_ialoadE (pc := 72) dX0_liveYear_72 h9.A5 (by first | decide | omega) (by omega) (up2_self) ?_
        refine V_if_gtN (pc := 73) (tgt := 95) dX0_liveYear_73 (by decide) (by omega) (fun c73 => ?_) (fun n73 => ?_)
        · skip
          try rw [sm_s _ n, if_neg (show ¬ q (74 + n) = 1 by omega), Nat.add_zero] at ih
          refine V_iinc1 (pc := 95) (ls' := [(0, _), (1, _), (2, _), (3, _), (4, _)]) dX0_liveYear_95 rfl (by decide) rfl ?_
          refine V_goto (pc := 98) (tgt := 5) dX0_liveYear_98 (by decide) ?_
          first
            | (refine ih _ (fun x a1 a2 a3 => by rw [up2_row (by omega), up2_row (by omega), hf x a2 a3]; exact hF x a1 a2 a3) ?_
               rw [psj_s (by omega), if_neg (by omega)]
               have h5 := ((hJ1.u3 (b := n) (n := q (62 + n) - lss law q n) (by omega)).u5 (b := n) (n := q (74 + n) - 1) (by omega)).u4 (b := n) (n := q (68 + n)) (by omega)
               refine VlM.cg ?_ (I := _) (fun _ _ _ => rfl)
               rw [up2_same ((up2_ne (by omega)).trans ((up2_ne (by omega)).trans ((hJ1.2.2.2.2.1 n (by omega)).trans (by rw [e4]))))] at h5
               exact h5)
            | (refine ih _ (fun x a1 a2 a3 => by rw [up2_row (by omega), up2_row (by omega), up2_row (by omega), up2_row (by omega), hf x a2 a3]; exact hF x a1 a2 a3) ?_
               rw [psj_s (by omega), if_pos h1]
               have h5 := ((hJ1.u3 (b := n) (n := q (62 + n) - lss law q n) (by omega)).u5 (b := n) (n := q (74 + n) - 1) (by omega)).u4 (b := n) (n := 0) (by omega)
               rw [pred1_0] at h5
               have e10 : q (74 + n) - 1 = 0 := by omega
               rw [e10] at h5 ⊢
               rw [up2_up2]
               exact h5)
        · skip
          have h1 : q (74 + n) = 1 := by omega
          rw [sm_s _ n, if_pos h1] at ih
          refine V_aload_n (pc := 76) dX0_liveYear_76 rfl ?_
          refine V_getR (pc := 77) 9 5 dX0_liveYear_77 flX0_107 (by decide) h9.o h9.R5 ?_
          refine V_iload (pc := 80) dX0_liveYear_80 rfl ?_
          refine V_iconst (pc := 82) (v := nI 0) dX0_liveYear_82 (by decide) ?_
          refine V_iastore (pc := 83) dX0_liveYear_83 h9.A5 (by first | decide | omega) (by omega) ?_
          refine V_aload_n (pc := 84) dX0_liveYear_84 rfl ?_
          refine V_getR (pc := 85) 9 4 dX0_liveYear_85 flX0_87 (by decide) h9.o h9.R4 ?_
          refine V_iload (pc := 88) dX0_liveYear_88 rfl ?_
          refine V_iconst (pc := 90) (v := (-1)) dX0_liveYear_90 (by decide) ?_
          refine V_iastore (pc := 91) dX0_liveYear_91 h9.A4 (by first | decide | omega) (by omega) ?_
          refine V_iinc1 (pc := 92) (ls' := [(0, _), (1, _), (2, _), (3, _), (4, _)]) dX0_liveYear_92 rfl (by decide) rfl ?_
          try rw [sm_s _ n, if_neg (show ¬ q (74 + n) = 1 by omega), Nat.add_zero] at ih
          refine V_iinc1 (pc := 95) (ls' := [(0, _), (1, _), (2, _), (3, _), (4, _)]) dX0_liveYear_95 rfl (by decide) rfl ?_
          refine V_goto (pc := 98) (tgt := 5) dX0_liveYear_98 (by decide) ?_
          first
            | (refine ih _ (fun x a1 a2 a3 => by rw [up2_row (by omega), up2_row (by omega), hf x a2 a3]; exact hF x a1 a2 a3) ?_
               rw [psj_s (by omega), if_neg (by omega)]
               have h5 := ((hJ1.u3 (b := n) (n := q (62 + n) - lss law q n) (by omega)).u5 (b := n) (n := q (74 + n) - 1) (by omega)).u4 (b := n) (n := q (68 + n)) (by omega)
               refine VlM.cg ?_ (I := _) (fun _ _ _ => rfl)
               rw [up2_same ((up2_ne (by omega)).trans ((up2_ne (by omega)).trans ((hJ1.2.2.2.2.1 n (by omega)).trans (by rw [e4]))))] at h5
               exact h5)
            | (refine ih _ (fun x a1 a2 a3 => by rw [up2_row (by omega), up2_row (by omega), up2_row (by omega), up2_row (by omega), hf x a2 a3]; exact hF x a1 a2 a3) ?_
               rw [psj_s (by omega), if_pos h1]
               have h5 := ((hJ1.u3 (b := n) (n := q (62 + n) - lss law q n) (by omega)).u5 (b := n) (n := q (74 + n) - 1) (by omega)).u4 (b := n) (n := 0) (by omega)
               rw [pred1_0] at h5
               have e10 : q (74 + n) - 1 = 0 := by omega
               rw [e10] at h5 ⊢
               rw [up2_up2]
               exact h5)
  refine V_iconst (pc := 0) (v := nI 0) dX0_liveYear_0 (by decide) ?_
  refine V_istore_n (pc := 1) (ls' := [(0, _), (1, _), (2, _), (3, _)]) dX0_liveYear_1 (by decide) rfl ?_
  refine V_iconst (pc := 2) (v := nI 0) dX0_liveYear_2 (by decide) ?_
  refine V_istore (pc := 3) (ls' := [(0, _), (1, _), (2, _), (3, _), (4, _)]) dX0_liveYear_3 (by decide) rfl ?_
  exact key 0 (by omega) I (fun _ _ _ _ => rfl) (by rw [psj_0]; exact hv)
end CL
