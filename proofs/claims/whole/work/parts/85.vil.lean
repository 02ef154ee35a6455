/-! THE CLASS: the village -/
def lwe : LawT := (0, (fun _ => 0), (fun _ _ => none), (fun _ _ => none))
def lwq (q : Nat → Nat) (lw : Nat → LawT) : LawT := if q 4 = 0 then lwe else lw (q 4 - 1)
theorem lwf_q (A : AT) : lwf A = lwq (aq A) (alw A) := rfl
/-- where texts may lie: the first one, or behind the reference -/
def txa (B a : Nat) : Prop := a = B + 30 ∨ B + 365 ≤ a
/-- the laws of the village at g -/
def LwC (E : EnT) (S : ST) (I : IT) (B g tt : Nat) (q : Nat → Nat) (lw : Nat → LawT) : Prop := (∀ l, l < q 3 → ∃ a, S.2.2 (g + 13) l = some a ∧ TxM E S I a (lw l) ∧ txa B a) ∧ txa B tt ∧ TxM E S I tt lwe
section CF
variable {E : EnT} {S : ST} {I : IT} {L : LT} {j t B g tt : Nat} {q : Nat → Nat} {lw : Nat → LawT}
theorem c_X10_hasSuitor (h10 : Lay10 E S g tt) (h : VgM I g q) (hq : wq q) {x : Int32} : Cd E kX10_hasSuitor 0 0 0 [.ref g, .int x] S I L (.int (b2i (bnd x (q 1)))) S I L := by
  have hnb := hq.ns
  refine C_of (by decide) (Nat.le_of_ble_eq_true rfl) ?_
  refine V_iload_n (pc := 0) dX10_hasSuitor_0 rfl ?_
  refine V_if_lt (pc := 1) (tgt := 16) dX10_hasSuitor_1 (by decide) (fun c1 => ?_) (fun n1 => ?_)
  · skip
    first | rw [bnd_lo c1] | rw [bnd_hi (by omega) c9]
    refine V_iconst (pc := 16) (v := nI 0) dX10_hasSuitor_16 (by decide) ?_
    refine V_zretB (pc := 17) (p := false) dX10_hasSuitor_17 rfl rfl (by first | decide | omega) (by first | decide | omega) ?_
    exact ⟨rfl, rfl, rfl, rfl⟩
  · skip
    refine V_iload_n (pc := 4) dX10_hasSuitor_4 rfl ?_
    refine V_aload_n (pc := 5) dX10_hasSuitor_5 rfl ?_
    refine V_getIE (pc := 6) 10 1 dX10_hasSuitor_6 flX10_18 (by decide) h10.o (h.2.1) ?_
    refine V_icmp_ge (pc := 9) (tgt := 16) dX10_hasSuitor_9 (by decide) (fun c9 => ?_) (fun n9 => ?_)
    · skip
      first | rw [bnd_lo c1] | rw [bnd_hi (by omega) c9]
      refine V_iconst (pc := 16) (v := nI 0) dX10_hasSuitor_16 (by decide) ?_
      refine V_zretB (pc := 17) (p := false) dX10_hasSuitor_17 rfl rfl (by first | decide | omega) (by first | decide | omega) ?_
      exact ⟨rfl, rfl, rfl, rfl⟩
    · skip
      rw [bnd_in (by omega) n1 n9]
      refine V_iconst (pc := 12) (v := nI 1) dX10_hasSuitor_12 (by decide) ?_
      refine V_goto (pc := 13) (tgt := 17) dX10_hasSuitor_13 (by decide) ?_
      refine V_zretB (pc := 17) (p := true) dX10_hasSuitor_17 rfl rfl (by first | decide | omega) (by first | decide | omega) ?_
      exact ⟨rfl, rfl, rfl, rfl⟩
theorem c_X10_hasLaw (h10 : Lay10 E S g tt) (h : VgM I g q) (hq : wq q) {x : Int32} : Cd E kX10_hasLaw 0 0 0 [.ref g, .int x] S I L (.int (b2i (bnd x (q 3)))) S I L := by
  have hnb := hq.nl
  refine C_of (by decide) (Nat.le_of_ble_eq_true rfl) ?_
  refine V_iload_n (pc := 0) dX10_hasLaw_0 rfl ?_
  refine V_if_lt (pc := 1) (tgt := 16) dX10_hasLaw_1 (by decide) (fun c1 => ?_) (fun n1 => ?_)
  · skip
    first | rw [bnd_lo c1] | rw [bnd_hi (by omega) c9]
    refine V_iconst (pc := 16) (v := nI 0) dX10_hasLaw_16 (by decide) ?_
    refine V_zretB (pc := 17) (p := false) dX10_hasLaw_17 rfl rfl (by first | decide | omega) (by first | decide | omega) ?_
    exact ⟨rfl, rfl, rfl, rfl⟩
  · skip
    refine V_iload_n (pc := 4) dX10_hasLaw_4 rfl ?_
    refine V_aload_n (pc := 5) dX10_hasLaw_5 rfl ?_
    refine V_getIE (pc := 6) 10 8 dX10_hasLaw_6 flX10_41 (by decide) h10.o (h.2.2.2.2.2.2.1) ?_
    refine V_icmp_ge (pc := 9) (tgt := 16) dX10_hasLaw_9 (by decide) (fun c9 => ?_) (fun n9 => ?_)
    · skip
      first | rw [bnd_lo c1] | rw [bnd_hi (by omega) c9]
      refine V_iconst (pc := 16) (v := nI 0) dX10_hasLaw_16 (by decide) ?_
      refine V_zretB (pc := 17) (p := false) dX10_hasLaw_17 rfl rfl (by first | decide | omega) (by first | decide | omega) ?_
      exact ⟨rfl, rfl, rfl, rfl⟩
    · skip
      rw [bnd_in (by omega) n1 n9]
      refine V_iconst (pc := 12) (v := nI 1) dX10_hasLaw_12 (by decide) ?_
      refine V_goto (pc := 13) (tgt := 17) dX10_hasLaw_13 (by decide) ?_
      refine V_zretB (pc := 17) (p := true) dX10_hasLaw_17 rfl rfl (by first | decide | omega) (by first | decide | omega) ?_
      exact ⟨rfl, rfl, rfl, rfl⟩
theorem c_X10_lawNumbered (h10 : Lay10 E S g tt) (h : VgM I g q) (hq : wq q) (hl : LwC E S I B g tt q lw) {x : Int32} : C E kX10_lawNumbered 1 0 0 [.ref g, .int x] S I L (fun r S' I' L' => (∃ a, r = some (.ref a) ∧ TxM E S I a (if bnd x (q 3) = true then lw (cln x) else lwe) ∧ txa B a) ∧ S = S' ∧ I = I' ∧ L = L') := by
  have hnl := hq.nl
  refine C_of (by decide) (Nat.le_of_ble_eq_true rfl) ?_
  cases hx : bnd x (q 3) with
  | true =>
    obtain ⟨l, hlt, rfl⟩ := bnd_ex (by omega) hx
    obtain ⟨a, ha, hT, hta⟩ := hl.1 l hlt
    have ec : cln (nI l) = l := cln_nI (by omega)
    refine V_aload_n (pc := 0) dX10_lawNumbered_0 rfl ?_
    refine V_iload_n (pc := 1) dX10_lawNumbered_1 rfl ?_
    refine V_callVd (pc := 2) (ci := 10) (c_X10_hasLaw h10 h hq) dX10_lawNumbered_2 mlX10_67 mkX10_hasLaw rfl rfl h10.o ⟨by decide, rfl⟩ ⟨Nat.le_of_ble_eq_true rfl, Nat.le_of_ble_eq_true rfl⟩ (Nat.le_of_ble_eq_true rfl) ⟨Nat.le_of_ble_eq_true rfl, Nat.le_of_ble_eq_true rfl⟩ ?_
    refine V_if_eqB (pc := 5) (tgt := 17) dX10_lawNumbered_5 (by decide) (fun c5 => absurd c5 (by rw [hx]; decide)) (fun n5 => ?_)
    refine V_aload_n (pc := 8) dX10_lawNumbered_8 rfl ?_
    refine V_getR (pc := 9) 10 9 dX10_lawNumbered_9 flX10_46 (by decide) h10.o h10.R9 ?_
    refine V_iload_n (pc := 12) dX10_lawNumbered_12 rfl ?_
    refine V_aaload (pc := 13) dX10_lawNumbered_13 h10.A9 (by decide) (by first | decide | omega) (by omega) ha ?_
    refine V_goto (pc := 14) (tgt := 21) dX10_lawNumbered_14 (by decide) ?_
    refine V_aret (pc := 21) dX10_lawNumbered_21 rfl (by simp) (by simp) (by first | decide | omega) (by first | decide | omega) ?_
    exact ⟨⟨a, rfl, by rw [if_pos rfl, ec]; exact hT, hta⟩, rfl, rfl, rfl⟩
  | false =>
    refine V_aload_n (pc := 0) dX10_lawNumbered_0 rfl ?_
    refine V_iload_n (pc := 1) dX10_lawNumbered_1 rfl ?_
    refine V_callVd (pc := 2) (ci := 10) (c_X10_hasLaw h10 h hq) dX10_lawNumbered_2 mlX10_67 mkX10_hasLaw rfl rfl h10.o ⟨by decide, rfl⟩ ⟨Nat.le_of_ble_eq_true rfl, Nat.le_of_ble_eq_true rfl⟩ (Nat.le_of_ble_eq_true rfl) ⟨Nat.le_of_ble_eq_true rfl, Nat.le_of_ble_eq_true rfl⟩ ?_
    refine V_if_eqB (pc := 5) (tgt := 17) dX10_lawNumbered_5 (by decide) (fun c5 => ?_) (fun n5 => absurd n5 (by rw [hx]; decide))
    refine V_aload_n (pc := 17) dX10_lawNumbered_17 rfl ?_
    refine V_getR (pc := 18) 10 10 dX10_lawNumbered_18 flX10_53 (by decide) h10.o h10.R10 ?_
    refine V_aret (pc := 21) dX10_lawNumbered_21 rfl (by simp) (by simp) (by first | decide | omega) (by first | decide | omega) ?_
    exact ⟨⟨tt, rfl, by rw [if_neg (by decide)]; exact hl.2.2, hl.2.1⟩, rfl, rfl, rfl⟩
theorem c_X10_lawInForce (h10 : Lay10 E S g tt) (h : VgM I g q) (hq : wq q) (hl : LwC E S I B g tt q lw) : C E kX10_lawInForce 2 0 0 [.ref g] S I L (fun r S' I' L' => (∃ a, r = some (.ref a) ∧ TxM E S I a (lwq q lw) ∧ txa B a) ∧ S = S' ∧ I = I' ∧ L = L') := by
  have hnl := hq.nl
  have hfo := hq.fo
  have el : (if bnd (pred1 (q 4)) (q 3) = true then lw (cln (pred1 (q 4))) else lwe) = lwq q lw := by
    unfold lwq
    by_cases h0 : q 4 = 0
    · rw [if_pos h0, h0, pred1_0, if_neg]
      rw [bnd_lo (by decide)]; decide
    · obtain ⟨m, hm⟩ : ∃ m, q 4 = m + 1 := ⟨q 4 - 1, by omega⟩
      rw [if_neg h0, hm, pred1_s, bnd_lt (by omega) (by omega), if_pos rfl, cln_nI (by omega)]
      rfl
  refine C_of (by decide) (Nat.le_of_ble_eq_true rfl) ?_
  refine V_aload_n (pc := 0) dX10_lawInForce_0 rfl ?_
  refine V_aload_n (pc := 1) dX10_lawInForce_1 rfl ?_
  refine V_getIE (pc := 2) 10 11 dX10_lawInForce_2 flX10_50 (by decide) h10.o (h.2.2.2.2.2.2.2) ?_
  refine V_callV (pc := 5) (ci := 10) (c_X10_lawNumbered h10 h hq hl) dX10_lawInForce_5 mlX10_71 mkX10_lawNumbered rfl rfl h10.o ⟨by decide, rfl⟩ ⟨Nat.le_of_ble_eq_true rfl, Nat.le_of_ble_eq_true rfl⟩ (Nat.le_of_ble_eq_true rfl) ⟨Nat.le_of_ble_eq_true rfl, Nat.le_of_ble_eq_true rfl⟩ (fun r S' I' L' hp => ?_)
  obtain ⟨⟨a, rfl, hT, hta⟩, rfl, rfl, rfl⟩ := hp
  rw [el] at hT
  refine V_aret (pc := 8) dX10_lawInForce_8 rfl (by simp) (by simp) (by first | decide | omega) (by first | decide | omega) ?_
  exact ⟨⟨a, rfl, hT, hta⟩, rfl, rfl, rfl⟩
theorem LwC.cg {I' : IT} (hl : LwC E S I B g tt q lw) (e : ∀ x, (B + 30 ≤ x ∧ x ≤ B + 35 ∨ B + 365 ≤ x) → I' x = I x) : LwC E S I' B g tt q lw := by
  refine ⟨fun l h => ?_, hl.2.1, ?_⟩
  · obtain ⟨a, h1, h2, h3⟩ := hl.1 l h
    exact ⟨a, h1, h2.cg fun x a1 a2 => e x (by unfold txa at h3; omega), h3⟩
  · exact hl.2.2.cg fun x a1 a2 => e x (by have := hl.2.1; unfold txa at this; omega)
theorem c_X3_liking (h3 : Lay3 E S j t) (h10 : Lay10 E S g tt) (h : VgM I g q) (hq : wq q) (hl : LwC E S I B g tt q lw) (hs : LawS (lwq q lw)) (hvj : ∀ x, g ≤ x → x ≤ g + 12 → x ≠ j + 1) (hjt : B + 35 < j + 1 ∧ j + 1 < B + 365 ∧ B + 35 < t + 1 ∧ t + 1 < B + 365 ∧ j ≠ t) {b s : Nat} (hb : b < 6) (hsu : s < 6) : C E kX3_liking 4 0 0 [.ref j, .ref g, .int (nI b), .int (nI s)] S I L (fun r S' I' L' => r = some (.int (nI (lik (lwq q lw) q b s))) ∧ S = S' ∧ L = L' ∧ Fj j t I' I) := by
  have her := erq_le q b s
  refine C_of (by decide) (Nat.le_of_ble_eq_true rfl) ?_
  refine V_aload_n (pc := 0) dX3_liking_0 rfl ?_
  refine V_aload_n (pc := 1) dX3_liking_1 rfl ?_
  refine V_iload_n (pc := 2) dX3_liking_2 rfl ?_
  refine V_iload_n (pc := 3) dX3_liking_3 rfl ?_
  refine V_callV (pc := 4) (ci := 3) (c_X3_lookAtBoth h3 h10 h hq hvj hb hsu) dX3_liking_4 mlX3_36 mkX3_lookAtBoth rfl rfl h3.o ⟨by decide, rfl⟩ ⟨Nat.le_of_ble_eq_true rfl, Nat.le_of_ble_eq_true rfl⟩ (Nat.le_of_ble_eq_true rfl) ⟨Nat.le_of_ble_eq_true rfl, Nat.le_of_ble_eq_true rfl⟩ (fun r S' I' L' hp => ?_)
  obtain ⟨rfl, rfl, rfl, hf, hw⟩ := hp
  have hv : VgM I' g q := h.cg fun a h1 h2 => hf a (hvj a h1 h2)
  have hl2 : LwC E S I' B g tt q lw := hl.cg fun x hx => hf x (by omega)
  refine V_aload_n (pc := 7) dX3_liking_7 rfl ?_
  refine V_aload_n (pc := 8) dX3_liking_8 rfl ?_
  refine V_callV (pc := 9) (ci := 10) (c_X10_lawInForce h10 hv hq hl2) dX3_liking_9 mlX3_40 mkX10_lawInForce rfl rfl h10.o ⟨by decide, rfl⟩ ⟨Nat.le_of_ble_eq_true rfl, Nat.le_of_ble_eq_true rfl⟩ (Nat.le_of_ble_eq_true rfl) ⟨Nat.le_of_ble_eq_true rfl, Nat.le_of_ble_eq_true rfl⟩ (fun r S' I' L' hp => ?_)
  obtain ⟨⟨a, rfl, hT, hta⟩, rfl, rfl, rfl⟩ := hp
  unfold txa at hta
  refine V_iconst (pc := 12) (v := nI 1) dX3_liking_12 (by decide) ?_
  refine V_bipush (pc := 13) (v := nI 99) dX3_liking_13 (by decide) ?_
  refine V_aload_n (pc := 15) dX3_liking_15 rfl ?_
  refine V_getR (pc := 16) 3 1 dX3_liking_16 flX3_11 (by decide) h3.o h3.R1 ?_
  refine V_iconst (pc := 19) (v := nI 5) dX3_liking_19 (by decide) ?_
  refine V_ialoadE (pc := 20) dX3_liking_20 h3.A1 (by first | decide | omega) (by omega) ((hw 5 (by omega)).trans (show Int32.ofInt (wdq q b (s + 1) 5) = nI (erq q b s) from (show wdq q b (s + 1) 5 = (erq q b s : Int) from by show (if s + 1 = 0 then (-1 : Int) else (erq q b (s + 1 - 1) : Int)) = _; rw [if_neg (by omega)]; rfl) ▸ (i32_N _).symm)) ?_
  refine V_callV (pc := 21) (ci := 3) (c_X3_told h3 hT hs ⟨fun x h1 h2 => by omega, by omega⟩ (wdq_ok hq hb (by omega)) hw (by omega) (by omega)) dX3_liking_21 mlX3_32 mkX3_told rfl rfl h3.o ⟨by decide, rfl⟩ ⟨Nat.le_of_ble_eq_true rfl, Nat.le_of_ble_eq_true rfl⟩ (Nat.le_of_ble_eq_true rfl) ⟨Nat.le_of_ble_eq_true rfl, Nat.le_of_ble_eq_true rfl⟩ (fun r S' I' L' hp => ?_)
  obtain ⟨rfl, rfl, rfl, hf2⟩ := hp
  refine V_iret (pc := 24) dX3_liking_24 rfl (by first | decide | omega) (by first | decide | omega) ?_
  refine ⟨?_, rfl, rfl, fun x h1 h2 => (hf2 x h2).trans (hf x h1)⟩
  rw [tdI_get (by omega)]
  unfold lik
  rfl
theorem c_X3_isBarred (h3 : Lay3 E S j t) (h10 : Lay10 E S g tt) (h : VgM I g q) (hq : wq q) (hl : LwC E S I B g tt q lw) (hs : LawS (lwq q lw)) (h1b : ∀ c w, c < (lwq q lw).1 → wok w → (lwq q lw).2.1 c = 3 → (lwq q lw).2.2.1 c w = some 1) (hvj : ∀ x, g ≤ x → x ≤ g + 12 → x ≠ j + 1) (hjt : B + 35 < j + 1 ∧ j + 1 < B + 365 ∧ B + 35 < t + 1 ∧ t + 1 < B + 365 ∧ j ≠ t) {b s : Nat} (hb : b < 6) (hsu : s < 6) : C E kX3_isBarred 4 0 0 [.ref j, .ref g, .int (nI b), .int (nI s)] S I L (fun r S' I' L' => r = some (.int (b2i (brd (lwq q lw) q b s))) ∧ S = S' ∧ L = L' ∧ Fj j t I' I) := by
  have hwo := wdq_ok hq hb (show s + 1 ≤ 6 by omega)
  have ht1 : ∀ n, n ≤ (lwq q lw).1 → ∀ v, tld (lwq q lw) 3 (wdq q b (s + 1)) n = some v → v = 1 := by
    intro n
    induction n with
    | zero => intro _ v h; cases h
    | succ n ih =>
      intro hn v h
      rw [tld_s _ _ _ n] at h
      split at h
      · rename_i hz
        rw [h1b n _ (by omega) hwo hz.1] at h
        cases h; rfl
      · exact ih (by omega) v h
  refine C_of (by decide) (Nat.le_of_ble_eq_true rfl) ?_
  refine V_aload_n (pc := 0) dX3_isBarred_0 rfl ?_
  refine V_aload_n (pc := 1) dX3_isBarred_1 rfl ?_
  refine V_iload_n (pc := 2) dX3_isBarred_2 rfl ?_
  refine V_iload_n (pc := 3) dX3_isBarred_3 rfl ?_
  refine V_callV (pc := 4) (ci := 3) (c_X3_lookAtBoth h3 h10 h hq hvj hb hsu) dX3_isBarred_4 mlX3_36 mkX3_lookAtBoth rfl rfl h3.o ⟨by decide, rfl⟩ ⟨Nat.le_of_ble_eq_true rfl, Nat.le_of_ble_eq_true rfl⟩ (Nat.le_of_ble_eq_true rfl) ⟨Nat.le_of_ble_eq_true rfl, Nat.le_of_ble_eq_true rfl⟩ (fun r S' I' L' hp => ?_)
  obtain ⟨rfl, rfl, rfl, hf, hw⟩ := hp
  have hv : VgM I' g q := h.cg fun a h1 h2 => hf a (hvj a h1 h2)
  have hl2 : LwC E S I' B g tt q lw := hl.cg fun x hx => hf x (by omega)
  refine V_aload_n (pc := 7) dX3_isBarred_7 rfl ?_
  refine V_aload_n (pc := 8) dX3_isBarred_8 rfl ?_
  refine V_callV (pc := 9) (ci := 10) (c_X10_lawInForce h10 hv hq hl2) dX3_isBarred_9 mlX3_40 mkX10_lawInForce rfl rfl h10.o ⟨by decide, rfl⟩ ⟨Nat.le_of_ble_eq_true rfl, Nat.le_of_ble_eq_true rfl⟩ (Nat.le_of_ble_eq_true rfl) ⟨Nat.le_of_ble_eq_true rfl, Nat.le_of_ble_eq_true rfl⟩ (fun r S' I' L' hp => ?_)
  obtain ⟨⟨a, rfl, hT, hta⟩, rfl, rfl, rfl⟩ := hp
  unfold txa at hta
  refine V_iconst (pc := 12) (v := nI 3) dX3_isBarred_12 (by decide) ?_
  refine V_iconst (pc := 13) (v := nI 1) dX3_isBarred_13 (by decide) ?_
  refine V_iconst (pc := 14) (v := nI 0) dX3_isBarred_14 (by decide) ?_
  refine V_callV (pc := 15) (ci := 3) (c_X3_told h3 hT hs ⟨fun x h1 h2 => by omega, by omega⟩ hwo hw (by omega) (by omega)) dX3_isBarred_15 mlX3_32 mkX3_told rfl rfl h3.o ⟨by decide, rfl⟩ ⟨Nat.le_of_ble_eq_true rfl, Nat.le_of_ble_eq_true rfl⟩ (Nat.le_of_ble_eq_true rfl) ⟨Nat.le_of_ble_eq_true rfl, Nat.le_of_ble_eq_true rfl⟩ (fun r S' I' L' hp => ?_)
  obtain ⟨rfl, rfl, rfl, hf2⟩ := hp
  have eb : tdI (lwq q lw) 3 (wdq q b (s + 1)) (lwq q lw).1 1 (nI 0) = nI (if brd (lwq q lw) q b s = true then 1 else 0) := by
    unfold tdI brd
    rcases hz : tld (lwq q lw) 3 (wdq q b (s + 1)) (lwq q lw).1 with _ | v
    · rfl
    · rw [ht1 _ (Nat.le_refl _) v hz]; rfl
  rw [eb]
  have h01 : (if brd (lwq q lw) q b s = true then 1 else 0) ≤ 1 := by split <;> omega
  refine V_iconst (pc := 18) (v := nI 1) dX3_isBarred_18 (by decide) ?_
  refine V_icmp_neN (pc := 19) (tgt := 26) dX3_isBarred_19 (by decide) (by omega) (by omega) (fun c19 => ?_) (fun n19 => ?_)
  · skip
    refine V_iconst (pc := 26) (v := nI 0) dX3_isBarred_26 (by decide) ?_
    refine V_zretB (pc := 27) (p := false) dX3_isBarred_27 rfl rfl (by first | decide | omega) (by first | decide | omega) ?_
    refine ⟨?_, rfl, rfl, fun x h1 h2 => (hf2 x h2).trans (hf x h1)⟩
    cases hz : brd (lwq q lw) q b s with
    | true => first | rfl | (rw [hz] at c19; exact absurd rfl c19)
    | false => first | rfl | (rw [hz] at n19; exact absurd n19 (by decide))
  · skip
    refine V_iconst (pc := 22) (v := nI 1) dX3_isBarred_22 (by decide) ?_
    refine V_goto (pc := 23) (tgt := 27) dX3_isBarred_23 (by decide) ?_
    refine V_zretB (pc := 27) (p := true) dX3_isBarred_27 rfl rfl (by first | decide | omega) (by first | decide | omega) ?_
    refine ⟨?_, rfl, rfl, fun x h1 h2 => (hf2 x h2).trans (hf x h1)⟩
    cases hz : brd (lwq q lw) q b s with
    | true => first | rfl | (rw [hz] at c19; exact absurd rfl c19)
    | false => first | rfl | (rw [hz] at n19; exact absurd n19 (by decide))
end CF
