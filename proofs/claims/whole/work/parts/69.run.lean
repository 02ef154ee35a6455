/-! DEEDS keep what is so -/
def SmO (A' A : AT) : Prop := (∀ i, (i < 5 ∨ 80 ≤ i) → aq A' i = aq A i) ∧ A'.2.1 = A.2.1 ∧ A'.2.2.2 = A.2.2.2
theorem SmO.rf {A : AT} : SmO A A := ⟨fun _ _ => rfl, rfl, rfl⟩
theorem SmO.tr {A B D : AT} (h : SmO A B) (g : SmO B D) : SmO A D := ⟨fun i hi => (h.1 i hi).trans (g.1 i hi), h.2.1.trans g.2.1, h.2.2.trans g.2.2⟩
theorem mix_out {q q' s : Nat → Nat} (h : ∀ i, (i < 5 ∨ 80 ≤ i) → q' i = q i) : mix q' s = mix q s := by
  funext i
  unfold mix
  split
  · rfl
  · exact h i (by omega)
theorem wfA.sq {A : AT} {q' : Nat → Nat} (h : wfA A) (hq : wq q') (ho : ∀ i, (i < 5 ∨ 80 ≤ i) → q' i = aq A i) : wfA (sq A q') := by
  obtain ⟨h1, h2, h3, h4, h5⟩ := h
  refine ⟨hq, fun l hl => h2 l (by have : l < q' 3 := hl; rw [ho 3 (by omega)] at this; exact this), h3, fun k hk => ?_, h5⟩
  have := h4 k hk
  refine ⟨?_, this.2⟩
  show wq (mix q' _)
  rw [mix_out ho]; exact this.1
def Dok (A : AT) (d : Nat × Nat × AT) : Prop := wfA d.2.2 ∧ SmO d.2.2 A ∧ (d.1 ≠ 0 → d.2.2 = A) ∧ d.1 < 7 ∧ (d.1 = 0 → d.2.1 ≤ 1000)
theorem Dok.no {A : AT} (h : wfA A) {r m : Nat} (hr : r < 7) (h0 : r ≠ 0) : Dok A (r, m, A) := ⟨h, SmO.rf, fun _ => rfl, hr, fun z => absurd z h0⟩
theorem Dok.yes {A : AT} (h : wfA A) {s m : Nat} {q' : Nat → Nat} (hs : s < 4) (hq : wq q') (ho : ∀ i, (i < 5 ∨ 80 ≤ i) → q' i = aq A i) (hm : m ≤ 1000) : Dok A (0, m, sq (rem1 A s) q') := ⟨(h.rem hs).sq hq ho, ⟨ho, rfl, rfl⟩, fun z => absurd rfl z, by show 0 < 7; omega, fun _ => hm⟩
theorem dPull_k {A : AT} (h : wfA A) (x y z : Int32) : Dok A (dPull A x y z) := by
  have hq := h.q
  have hnb := hq.nb
  unfold dPull
  split
  · rename_i hxy
    obtain ⟨t, ht, hx⟩ := bnd_ex (by omega) hxy.1
    obtain ⟨j, hj, hy⟩ := bnd_ex (by omega) hxy.2
    split
    · rename_i hz
      obtain ⟨b, hb, hz⟩ := bnd_ex (by omega) hz
      subst hx hy hz
      rw [cln_nI (by omega), cln_nI (by omega), cln_nI (by omega)]
      have hpi := hq.pi b j (by omega) hj
      split
      · refine Dok.yes h (by omega) (hq.pin hb hj (Nat.lt_of_le_of_lt (Nat.sub_le _ _) hpi)) (fun i hi => setq_n (by omega)) ?_
        have := nts_le (setq (aq A) (8 + 8 * b + j) (aq A (8 + 8 * b + j) - 2 ^ t)) b
        omega
      · exact Dok.no h (by omega) (by omega)
    · exact Dok.no h (by omega) (by omega)
  · exact Dok.no h (by omega) (by omega)
theorem dSnap_k {A : AT} (h : wfA A) (x y : Int32) : Dok A (dSnap A x y) := by
  have hq := h.q
  have hnb := hq.nb
  unfold dSnap
  split
  · rename_i hx
    obtain ⟨t, ht, hx⟩ := bnd_ex (by omega) hx
    split
    · rename_i hy
      obtain ⟨b, hb, hy⟩ := bnd_ex (by omega) hy
      subst hx hy
      rw [cln_nI (by omega), cln_nI (by omega)]
      have hpi := hq.br b (by omega)
      split
      · exact Dok.no h (by omega) (by omega)
      · rename_i hbit
        have h2 := bit_add ht hpi hbit
        refine Dok.yes h (by omega) (hq.bro hb ?_) (fun i hi => setq_n (by omega)) ?_
        · exact h2
        · have := nts_le (setq (aq A) (56 + b) (aq A (56 + b) + 2 ^ t)) b
          omega
    · exact Dok.no h (by omega) (by omega)
  · exact Dok.no h (by omega) (by omega)
theorem dPass_k {A : AT} (h : wfA A) : Dok A (dPass A) := by
  have hq := h.q
  have hye := hq.ye
  unfold dPass
  split
  · exact Dok.no h (by omega) (by omega)
  · exact Dok.yes h (by omega) (hq.year (by omega)) (fun i hi => psq_o (by omega)) (by omega)
theorem dWed_k {A : AT} (h : wfA A) (x y : Int32) : Dok A (dWed A x y) := by
  have hq := h.q
  have hnb := hq.nb
  have hns := hq.ns
  unfold dWed
  split
  · rename_i hxy
    obtain ⟨b, hb, hx⟩ := bnd_ex (by omega) hxy.1
    obtain ⟨s, hs, hy⟩ := bnd_ex (by omega) hxy.2
    subst hx hy
    rw [cln_nI (by omega), cln_nI (by omega)]
    have hls := lst_le (lwf A) (aq A) b
    split
    · rename_i hw
      refine Dok.yes h (by omega) (hq.wedd hb hs ?_ ⟨by omega, hls⟩) (fun i hi => by rw [setq_n (by omega), setq_n (by omega)]) (by omega)
      exact bof_0 hq hw.2.1
    · exact Dok.no h (by omega) (by omega)
  · exact Dok.no h (by omega) (by omega)
/-! THE REFERENCE runs orders -/
def wdO (q : Nat → Nat) (dn lt : Nat) : WT := fun j => if j = 7 then (q 5 : Int) else if j = 9 then (dn : Int) else if j = 10 then (lt : Int) - 1 else if j = 11 then (cpl q : Int) else if 12 ≤ j ∧ j < 18 then (if j - 12 < q 0 then (q (74 + (j - 12)) : Int) else -1) else if 18 ≤ j ∧ j < 24 then (if j - 18 < q 0 then (nts q (j - 18) : Int) else -1) else 0
theorem wdO_ok {q : Nat → Nat} (hq : wq q) {dn lt : Nat} (hd : dn ≤ 1000000) (hl : lt ≤ 1001) : wok (wdO q dn lt) := by
  have h5 := hq.ye
  have h0 := hq.nb
  have hc := cpl_le q
  intro j
  unfold wdO sml
  split; omega
  split; omega
  split; omega
  split; omega
  split
  · split
    · have := hq.le (j - 12) (by omega); omega
    · omega
  split
  · split
    · have := nts_le q (j - 18); omega
    · omega
  omega
theorem wdO_l {q : Nat → Nat} {dn lt a : Nat} (ha : a < 6) : wdO q dn lt (12 + a) = if a < q 0 then (q (74 + a) : Int) else -1 := by
  unfold wdO
  rw [if_neg (by omega), if_neg (by omega), if_neg (by omega), if_neg (by omega), if_pos (by omega), show 12 + a - 12 = a from by omega]
theorem wdO_n {q : Nat → Nat} {dn lt a : Nat} (ha : a < 6) : wdO q dn lt (18 + a) = if a < q 0 then (nts q a : Int) else -1 := by
  unfold wdO
  rw [if_neg (by omega), if_neg (by omega), if_neg (by omega), if_neg (by omega), if_neg (by omega), if_pos (by omega), show 18 + a - 18 = a from by omega]
theorem lfA_t (w : WT) : lfA true w = lfO w := by
  funext p a
  unfold lfA
  rw [if_pos rfl]
def FrR (o : Nat) (I' I : IT) (L' L : LT) : Prop := (∀ a, a ≠ o → I' a = I a) ∧ (∀ i, i ≠ 38 → i ≠ 58 → I' o i = I o i) ∧ (∀ a, a ≠ o → a ≠ o + 20 → L' a = L a)
theorem FrR.rf {o : Nat} {I : IT} {L : LT} : FrR o I I L L := ⟨fun _ _ => rfl, fun _ _ _ => rfl, fun _ _ _ => rfl⟩
theorem FrR.tr {o : Nat} {I1 I2 I3 : IT} {L1 L2 L3 : LT} (h : FrR o I1 I2 L1 L2) (g : FrR o I2 I3 L2 L3) : FrR o I1 I3 L1 L3 := ⟨fun a h1 => (h.1 a h1).trans (g.1 a h1), fun i h1 h2 => (h.2.1 i h1 h2).trans (g.2.1 i h1 h2), fun a h1 h2 => (h.2.2 a h1 h2).trans (g.2.2 a h1 h2)⟩
theorem FrR.mr {o : Nat} {I I' : IT} {L L' : LT} {A : AT} (f : FrR o I' I L' L) (h : MR o I L A) : MR o I' L' A := h.dead ⟨fun a ha => f.1 a (by simp at ha; omega), fun i hi => f.2.1 i (by simp at hi; omega) (by simp at hi; omega), fun a ha => f.2.2 a (by simp at ha; omega) (by simp at ha; omega)⟩
section RB
variable {E : EnT} {S : ST} {I : IT} {L : LT} {o : Nat} {A : AT} {c : CT} {w : WT}
/-- the code stands -/
def CdR (I : IT) (o : Nat) (c : CT) : Prop := (∀ k, k < c.2.2 → I (o + 11) k = nI (c.1 k) ∧ I (o + 12) k = nI (c.2.1 k)) ∧ CG c ∧ c.2.2 ≤ 400
def NwR (L : LT) (o : Nat) (w : WT) : Prop := ∀ j, 0 < j → j < 5 → L (o + 19) j = i64 (lfO w j 0)
theorem c_X12_sumOf_n (h12 : Lay12 E S o) {a : Nat} (ha : a + 1 < 120) {off : Bool} (hoff : I o 58 = b2i off) (h : off = true ∨ SZ (I (o + 34)) a) : C E kX12_sumOf 4 0 0 [.ref o, .int (nI a)] S I L (fun r S' I' L' => r = some (.int (-1)) ∧ S = S' ∧ I = I' ∧ L = L') := by
  refine C_of (by decide) (Nat.le_of_ble_eq_true rfl) ?_
  cases off with
  | true =>
    refine V_aload_n (pc := 0) dX12_sumOf_0 rfl ?_
    refine V_getIE (pc := 1) 12 58 dX12_sumOf_1 flX12_539 (by decide) h12.o (hoff) ?_
    refine V_if_neB (pc := 4) (tgt := 24) dX12_sumOf_4 (by decide) (fun c4 => ?_) (fun n4 => absurd n4 (by decide))
    refine V_iconst (pc := 24) (v := (-1)) dX12_sumOf_24 (by decide) ?_
    refine V_iret (pc := 25) dX12_sumOf_25 rfl (by first | decide | omega) (by first | decide | omega) ?_
    exact ⟨rfl, rfl, rfl, rfl⟩
  | false =>
    have hz := h.resolve_left (by decide)
    refine V_aload_n (pc := 0) dX12_sumOf_0 rfl ?_
    refine V_getIE (pc := 1) 12 58 dX12_sumOf_1 flX12_539 (by decide) h12.o (hoff) ?_
    refine V_if_neB (pc := 4) (tgt := 24) dX12_sumOf_4 (by decide) (fun c4 => absurd c4 (by decide)) (fun n4 => ?_)
    refine V_aload_n (pc := 7) dX12_sumOf_7 rfl ?_
    refine V_getR (pc := 8) 12 54 dX12_sumOf_8 flX12_163 (by decide) h12.o h12.R54 ?_
    refine V_iload_n (pc := 11) dX12_sumOf_11 rfl ?_
    refine V_ialoadE (pc := 12) dX12_sumOf_12 h12.A54 (by first | decide | omega) (by omega) (hz.1) ?_
    refine V_aload_n (pc := 13) dX12_sumOf_13 rfl ?_
    refine V_getR (pc := 14) 12 54 dX12_sumOf_14 flX12_163 (by decide) h12.o h12.R54 ?_
    refine V_iload_n (pc := 17) dX12_sumOf_17 rfl ?_
    refine V_iconst (pc := 18) (v := nI 1) dX12_sumOf_18 (by decide) ?_
    refine V_iaddN (pc := 19) dX12_sumOf_19 ?_
    refine V_ialoadE (pc := 20) dX12_sumOf_20 h12.A54 (by first | decide | omega) (by omega) (hz.2) ?_
    refine V_icmp_neN (pc := 21) (tgt := 26) dX12_sumOf_21 (by decide) (by omega) (by omega) (fun c21 => absurd c21 (by omega)) (fun n21 => ?_)
    refine V_iconst (pc := 24) (v := (-1)) dX12_sumOf_24 (by decide) ?_
    refine V_iret (pc := 25) dX12_sumOf_25 rfl (by first | decide | omega) (by first | decide | omega) ?_
    exact ⟨rfl, rfl, rfl, rfl⟩
theorem c_X12_sumOf (h12 : Lay12 E S o) (hM : MR o I L A) (hq : wq (aq A)) {a : Nat} (ha : a + 1 < 120) (hC : CdR I o c) (hwo : wok w) (hN : NwR L o w) (hwl : ∀ a, a < 6 → w (12 + a) = if a < aq A 0 then (aq A (74 + a) : Int) else -1) (hwn : ∀ a, a < 6 → w (18 + a) = if a < aq A 0 then (nts (aq A) a : Int) else -1) {F : SF} (hoff : I o 58 = b2i false) (hu : SU (I (o + 34)) c a F) : C E kX12_sumOf 4 0 0 [.ref o, .int (nI a)] S I L (fun r S' I' L' => ∃ v, r = some (.int v) ∧ S = S' ∧ FrR o I' I L' L ∧ I' o 58 = b2i (F w).isNone ∧ ∀ x, F w = some x → v = Int32.ofInt x) := by
  obtain ⟨s, e, m, q1, q2, q3, q4, q5, q6⟩ := hu
  obtain ⟨fuel, hev⟩ := q6.ev (w := w) (by omega) hwo
  rw [lfA_t] at hev
  have hcn := hC.2.2
  refine C_of (by decide) (Nat.le_of_ble_eq_true rfl) ?_
  refine V_aload_n (pc := 0) dX12_sumOf_0 rfl ?_
  refine V_getIE (pc := 1) 12 58 dX12_sumOf_1 flX12_539 (by decide) h12.o (hoff) ?_
  refine V_if_neB (pc := 4) (tgt := 24) dX12_sumOf_4 (by decide) (fun c4 => absurd c4 (by decide)) (fun n4 => ?_)
  refine V_aload_n (pc := 7) dX12_sumOf_7 rfl ?_
  refine V_getR (pc := 8) 12 54 dX12_sumOf_8 flX12_163 (by decide) h12.o h12.R54 ?_
  refine V_iload_n (pc := 11) dX12_sumOf_11 rfl ?_
  refine V_ialoadE (pc := 12) dX12_sumOf_12 h12.A54 (by first | decide | omega) (by omega) (q1) ?_
  refine V_aload_n (pc := 13) dX12_sumOf_13 rfl ?_
  refine V_getR (pc := 14) 12 54 dX12_sumOf_14 flX12_163 (by decide) h12.o h12.R54 ?_
  refine V_iload_n (pc := 17) dX12_sumOf_17 rfl ?_
  refine V_iconst (pc := 18) (v := nI 1) dX12_sumOf_18 (by decide) ?_
  refine V_iaddN (pc := 19) dX12_sumOf_19 ?_
  refine V_ialoadE (pc := 20) dX12_sumOf_20 h12.A54 (by first | decide | omega) (by omega) (q2) ?_
  refine V_icmp_neN (pc := 21) (tgt := 26) dX12_sumOf_21 (by decide) (by omega) (by omega) (fun c21 => ?_) (fun n21 => absurd n21 (by omega))
  refine V_aload_n (pc := 26) dX12_sumOf_26 rfl ?_
  refine V_iconst (pc := 27) (v := nI 1) dX12_sumOf_27 (by decide) ?_
  refine V_putI (pc := 28) 12 20 dX12_sumOf_28 flX12_350 (by decide) (by decide) (Or.inl rfl) rfl rfl h12.o ?_
  refine V_aload_n (pc := 31) dX12_sumOf_31 rfl ?_
  refine V_aload_n (pc := 32) dX12_sumOf_32 rfl ?_
  refine V_getR (pc := 33) 12 54 dX12_sumOf_33 flX12_163 (by decide) h12.o h12.R54 ?_
  refine V_iload_n (pc := 36) dX12_sumOf_36 rfl ?_
  refine V_ialoadE (pc := 37) dX12_sumOf_37 h12.A54 (by first | decide | omega) (by omega) ((up2_ne (by omega)).trans q1) ?_
  refine V_aload_n (pc := 38) dX12_sumOf_38 rfl ?_
  refine V_getR (pc := 39) 12 54 dX12_sumOf_39 flX12_163 (by decide) h12.o h12.R54 ?_
  refine V_iload_n (pc := 42) dX12_sumOf_42 rfl ?_
  refine V_iconst (pc := 43) (v := nI 1) dX12_sumOf_43 (by decide) ?_
  refine V_iaddN (pc := 44) dX12_sumOf_44 ?_
  refine V_ialoadE (pc := 45) dX12_sumOf_45 h12.A54 (by first | decide | omega) (by omega) ((up2_ne (by omega)).trans q2) ?_
  refine V_callV (pc := 46) (ci := 12) (c_X12_reckonAllO (q := aq A) h12 (hM.row.cg (up2_row (by omega))) hq hwo up2_self (show e ≤ 400 by omega) (by omega) (fun k hk => by rw [up2_row (by omega), up2_row (by omega)]; have h1 := hC.1 k (by omega); have h2 := hC.2.1 k (by omega); exact ⟨h1.1, h2.1, h2.2.1, h1.2, h2.2.2⟩) hN hwl hwn hev) dX12_sumOf_46 mlX12_441 mkX12_reckonAll rfl rfl h12.o ⟨by decide, rfl⟩ ⟨Nat.le_of_ble_eq_true rfl, Nat.le_of_ble_eq_true rfl⟩ (Nat.le_of_ble_eq_true rfl) ⟨Nat.le_of_ble_eq_true rfl, Nat.le_of_ble_eq_true rfl⟩ (fun r S' I' L' hp => ?_)
  obtain ⟨rfl, rfl, rfl, hR, hval⟩ := hp
  refine V_aload_n (pc := 49) dX12_sumOf_49 rfl ?_
  refine V_iconst (pc := 50) (v := nI 0) dX12_sumOf_50 (by decide) ?_
  refine V_putI (pc := 51) 12 20 dX12_sumOf_51 flX12_350 (by decide) (by decide) (Or.inl rfl) rfl rfl h12.o ?_
  refine V_aload_n (pc := 54) dX12_sumOf_54 rfl ?_
  refine V_aload_n (pc := 55) dX12_sumOf_55 rfl ?_
  refine V_getIE (pc := 56) 12 38 dX12_sumOf_56 flX12_424 (by decide) h12.o ((up2_nej (by omega)).trans up2_self) ?_
  refine V_putI (pc := 59) 12 58 dX12_sumOf_59 flX12_539 (by decide) (by decide) (Or.inl rfl) (b2i_n _) (by cases (F w).isNone <;> rfl) h12.o ?_
  refine V_aload_n (pc := 62) dX12_sumOf_62 rfl ?_
  refine V_getL (pc := 63) 12 39 dX12_sumOf_63 flX12_438 (by decide) h12.o ?_
  refine V_l2i (pc := 66) dX12_sumOf_66 rfl ?_
  refine V_iret (pc := 67) dX12_sumOf_67 rfl (by first | decide | omega) (by first | decide | omega) ?_
  refine ⟨_, rfl, rfl, ⟨fun x hx => ?_, fun i h1 h2 => ?_, fun x h1 h2 => hR.1 x h2 h1⟩, up2_self, fun x hx => ?_⟩
  · rw [up2_row hx, up2_row hx, up2_row hx, up2_row hx]
  · rw [up2_nej h2]
    by_cases e : i = 20
    · subst e; rw [up2_self]; exact hM.od.symm
    · rw [up2_nej e, up2_nej h1, up2_nej e]
  · rw [hval x hx]; unfold i64; exact Int64.toInt32_ofInt
def act1 (A : AT) (kd : Nat) (a b d : Int32) : Nat × Nat × AT := if kd = 0 then dPull A a b d else if kd = 1 then dSnap A a b else if kd = 2 then dWed A a b else dPass A
theorem act1_k (h : wfA A) (kd : Nat) (a b d : Int32) : Dok A (act1 A kd a b d) := by
  unfold act1
  split; exact dPull_k h a b d
  split; exact dSnap_k h a b
  split; exact dWed_k h a b
  exact dPass_k h
theorem c_X12_act (h12 : Lay12 E S o) (hM : MR o I L A) (hA : wfA A) {kd : Nat} (hk : kd < 4) {a b d : Int32} : Cmd E kX12_act 9 [.ref o, .int (nI kd), .int a, .int b, .int d] S I L o (.int (dv (act1 A kd a b d))) (act1 A kd a b d).2.2 := by
  refine C_of (by decide) (Nat.le_of_ble_eq_true rfl) ?_
  rcases (show kd = 0 ∨ kd = 1 ∨ kd = 2 ∨ kd = 3 by omega) with e | e | e | e
  · subst e
    refine V_iload_n (pc := 0) dX12_act_0 rfl ?_
    refine V_tableIn (pc := 1) (off := 27) (tgt := 28) dX12_act_1 (by decide) (by decide) (by decide) (by decide) ?_
    refine V_aload_n (pc := 28) dX12_act_28 rfl ?_
    refine V_iload_n (pc := 29) dX12_act_29 rfl ?_
    refine V_iload_n (pc := 30) dX12_act_30 rfl ?_
    refine V_iload (pc := 31) dX12_act_31 rfl ?_
    refine V_callV (pc := 33) (ci := 12) (c_X12_pullNow h12 hM hA) dX12_act_33 mlX12_468 mkX12_pullNow rfl rfl h12.o ⟨by decide, rfl⟩ ⟨Nat.le_of_ble_eq_true rfl, Nat.le_of_ble_eq_true rfl⟩ (Nat.le_of_ble_eq_true rfl) ⟨Nat.le_of_ble_eq_true rfl, Nat.le_of_ble_eq_true rfl⟩ (fun r S' I' L' hp => ?_)
    obtain ⟨rfl, rfl, hM2, hF2⟩ := hp
    refine V_iret (pc := 36) dX12_act_36 rfl (by first | decide | omega) (by first | decide | omega) ?_
    exact ⟨rfl, rfl, hM2, hF2⟩
  · subst e
    refine V_iload_n (pc := 0) dX12_act_0 rfl ?_
    refine V_tableIn (pc := 1) (off := 36) (tgt := 37) dX12_act_1 (by decide) (by decide) (by decide) (by decide) ?_
    refine V_aload_n (pc := 37) dX12_act_37 rfl ?_
    refine V_iload_n (pc := 38) dX12_act_38 rfl ?_
    refine V_iload_n (pc := 39) dX12_act_39 rfl ?_
    refine V_callV (pc := 40) (ci := 12) (c_X12_snapNow h12 hM hA) dX12_act_40 mlX12_472 mkX12_snapNow rfl rfl h12.o ⟨by decide, rfl⟩ ⟨Nat.le_of_ble_eq_true rfl, Nat.le_of_ble_eq_true rfl⟩ (Nat.le_of_ble_eq_true rfl) ⟨Nat.le_of_ble_eq_true rfl, Nat.le_of_ble_eq_true rfl⟩ (fun r S' I' L' hp => ?_)
    obtain ⟨rfl, rfl, hM2, hF2⟩ := hp
    refine V_iret (pc := 43) dX12_act_43 rfl (by first | decide | omega) (by first | decide | omega) ?_
    exact ⟨rfl, rfl, hM2, hF2⟩
  · subst e
    refine V_iload_n (pc := 0) dX12_act_0 rfl ?_
    refine V_tableIn (pc := 1) (off := 43) (tgt := 44) dX12_act_1 (by decide) (by decide) (by decide) (by decide) ?_
    refine V_aload_n (pc := 44) dX12_act_44 rfl ?_
    refine V_iload_n (pc := 45) dX12_act_45 rfl ?_
    refine V_iload_n (pc := 46) dX12_act_46 rfl ?_
    refine V_callV (pc := 47) (ci := 12) (c_X12_wedNow h12 hM hA) dX12_act_47 mlX12_475 mkX12_wedNow rfl rfl h12.o ⟨by decide, rfl⟩ ⟨Nat.le_of_ble_eq_true rfl, Nat.le_of_ble_eq_true rfl⟩ (Nat.le_of_ble_eq_true rfl) ⟨Nat.le_of_ble_eq_true rfl, Nat.le_of_ble_eq_true rfl⟩ (fun r S' I' L' hp => ?_)
    obtain ⟨rfl, rfl, hM2, hF2⟩ := hp
    refine V_iret (pc := 50) dX12_act_50 rfl (by first | decide | omega) (by first | decide | omega) ?_
    exact ⟨rfl, rfl, hM2, hF2⟩
  · subst e
    refine V_iload_n (pc := 0) dX12_act_0 rfl ?_
    refine V_tableOut (pc := 1) (tgt := 51) dX12_act_1 (by decide) (by decide) ?_
    refine V_aload_n (pc := 51) dX12_act_51 rfl ?_
    refine V_callV (pc := 52) (ci := 12) (c_X12_passNow h12 hM hA) dX12_act_52 mlX12_481 mkX12_passNow rfl rfl h12.o ⟨by decide, rfl⟩ ⟨Nat.le_of_ble_eq_true rfl, Nat.le_of_ble_eq_true rfl⟩ (Nat.le_of_ble_eq_true rfl) ⟨Nat.le_of_ble_eq_true rfl, Nat.le_of_ble_eq_true rfl⟩ (fun r S' I' L' hp => ?_)
    obtain ⟨rfl, rfl, hM2, hF2⟩ := hp
    refine V_iret (pc := 55) dX12_act_55 rfl (by first | decide | omega) (by first | decide | omega) ?_
    exact ⟨rfl, rfl, hM2, hF2⟩
end RB
